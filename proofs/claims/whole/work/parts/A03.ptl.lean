/-! the classes of a side, as the class keeps them -/
def clA (r : Nat → Int32) (side : Nat) (d : Nat) : Int32 := if d < 8 then clI (knW r) (clR r side) d else 0
def lkTo (r : Nat → Int32) (side : Nat) (lk : Nat → Int32) (c : Nat) : Nat → Int32 := fun d => if d < c then lkI (knW r) (cmpW r side) d else lk d
theorem lkTo_0 {r lk : Nat → Int32} {side : Nat} : lkTo r side lk 0 = lk := by
  funext d; unfold lkTo; rw [if_neg (by omega)]
theorem lkTo_s {r lk : Nat → Int32} {side c : Nat} : upd (lkTo r side lk c) c (lkI (knW r) (cmpW r side) c) = lkTo r side lk (c + 1) := by
  funext d
  rw [upd_at]
  unfold lkTo
  by_cases h : d = c
  · rw [if_pos h, if_pos (by omega), h]
  · rw [if_neg h]
    by_cases h2 : d < c
    · rw [if_pos h2, if_pos (by omega)]
    · rw [if_neg h2, if_neg (by omega)]
theorem lk_val {r : Nat → Int32} {side c : Nat} : (if kn (r 0) c then likTo r (r 0) c side 8 else nI 0) = lkI (knW r) (cmpW r side) c := by
  unfold lkI
  rw [likTo_set]
  rfl
theorem plH_0 {r lk cO mb : Nat → Int32} {side m : Nat} (h1 : 0 ≤ r 1) (hm : m ≤ 8) : plH (knW r) (cmpW r side) m (lkTo r side lk 8) cO mb [] 0 0 := by
  refine ⟨rfl, rfl, Nat.le_refl _, Nat.zero_le _, hm, ⟨fun d hd => ?_, fun d hd hk => ?_⟩, fun d hd => absurd hd (by omega), fun k hk => absurd hk (by omega)⟩
  · unfold lkTo; rw [if_pos hd]
  · unfold lkI
    rw [if_pos hk]
    exact lik_ne hd hk h1
theorem part_none {r : Nat → Int32} {side m : Nat} (h : (sv (okS (knW r) (cmpW r side) m) 8 [] 0).isSome = false) : svR r side m = none := by unfold svR; simpa using h
theorem part_lt {r : Nat → Int32} {side m : Nat} (hm : m ≤ 8) (h : svR r side m = none) : m + 1 ≤ 8 := by
  rcases Nat.lt_or_ge m 8 with q | q
  · omega
  · exact absurd (show svR r side 8 = none from by rw [show 8 = m by omega]; exact h) (sv_8 (kn := knW r) (cmp := cmpW r side) 8 [] rfl (Nat.le_refl _))
theorem part_next {r : Nat → Int32} {side m : Nat} (hn : ∀ j, j < m → svR r side j = none) (h : svR r side m = none) : ∀ j, j < m + 1 → svR r side j = none := by
  intro j hj
  by_cases e : j = m
  · rw [e]; exact h
  · exact hn j (by omega)
theorem part_done {r : Nat → Int32} {side m : Nat} {cO mb cO2 mb2 : Nat → Int32} {ct2 : Int32} (hp : plP (knW r) (cmpW r side) m 8 [] 0 cO mb cO2 mb2 ct2) (hn : ∀ j, j < m → svR r side j = none) (hs : (sv (okS (knW r) (cmpW r side) m) 8 [] 0).isSome = true) (hm : m ≤ 8) : (∀ d, d < 8 → cO2 d = clA r side d) ∧ ct2 = nI (clM r side) := by
  obtain ⟨h1, h2, h3⟩ := clM_spec r side
  have hs : (svR r side m).isSome = true := hs
  have e : m = clM r side := by
    rcases Nat.lt_trichotomy m (clM r side) with q | q | q
    · rw [h3 m q] at hs; cases hs
    · exact q
    · have := hn _ q; rw [h2] at this; cases this
  rw [← e] at h2
  obtain ⟨b1, b2⟩ := hp.2 _ h2
  refine ⟨fun d hd => ?_, ?_⟩
  · rw [b1 d hd]; unfold clA; rw [if_pos hd]
  · rw [b2, clM_us]
