/-! partings: what is found is one, its classes are all in use -/
def chn (ok : List Nat → Nat → Bool) : List Nat → Prop
  | [] => True
  | k :: ps => ok ps k = true ∧ chn ok ps
theorem tryF_get {α : Type} {g : Nat → Option α} {ok : Nat → Bool} {r : α} : ∀ {m f : Nat}, tryF g ok m f = some r → ∃ k, f ≤ k ∧ k < f + m ∧ ok k = true ∧ g k = some r
  | 0, f, h => by cases h
  | m + 1, f, h => by
    rw [tryF_s] at h
    by_cases ho : ok f = true
    · rw [if_pos ho] at h
      cases hv : g f with
      | none =>
        rw [hv] at h
        obtain ⟨k, h1, h2, h3⟩ := tryF_get (m := m) (f := f + 1) h
        exact ⟨k, by omega, by omega, h3⟩
      | some x =>
        rw [hv] at h
        cases h
        exact ⟨f, by omega, by omega, ho, hv⟩
    · rw [if_neg ho] at h
      obtain ⟨k, h1, h2, h3⟩ := tryF_get (m := m) (f := f + 1) h
      exact ⟨k, by omega, by omega, h3⟩
theorem sv_chn {ok : List Nat → Nat → Bool} : ∀ {n : Nat} {ps r : List Nat} {f : Nat}, sv ok n ps f = some r → chn ok ps → chn ok r ∧ r.length = ps.length + n
  | 0, ps, r, f, h, hc => by cases h; exact ⟨hc, rfl⟩
  | n + 1, ps, r, f, h, hc => by
    obtain ⟨k, -, -, hk, hg⟩ := tryF_get h
    obtain ⟨h1, h2⟩ := sv_chn (n := n) hg ⟨hk, hc⟩
    exact ⟨h1, by rw [h2]; simp; omega⟩
theorem chn_drop {ok : List Nat → Nat → Bool} : ∀ {r : List Nat} (n : Nat), chn ok r → chn ok (r.drop n)
  | r, 0, h => h
  | [], n + 1, h => trivial
  | k :: r, n + 1, h => chn_drop (r := r) n h.2
theorem sv_all {ok : List Nat → Nat → Bool} {r : List Nat} (hc : chn ok r) (hb : ∀ ps k, ok ps k = true → k < 9) : ∀ n, n ≤ r.length → sv ok n (r.drop n) 0 ≠ none
  | 0, _ => by simp [sv]
  | n + 1, hn => by
    have ih := sv_all hc hb n (by omega)
    have e : r.drop n = r[n] :: r.drop (n + 1) := List.drop_eq_getElem_cons (by omega)
    rw [e] at ih
    have h2 := chn_drop n hc
    rw [e] at h2
    exact tryF_ne (g := fun k => sv ok n (k :: r.drop (n + 1)) 0) (m := 9 - 0) (f := 0) (k := r[n]) h2.1 ih (by omega) (by have := hb _ _ h2.1; omega)
theorem okS_us {kn : Nat → Bool} {cmp : Nat → Nat → Bool} {most k : Nat} {ps : List Nat} (hk : kn ps.length = true) (h : okS kn cmp most ps k = true) : k ≤ usN kn (pat ps) ps.length ∧ k < most := by
  rw [okS_kn hk] at h
  unfold okN at h
  simp only [Bool.and_eq_true, decide_eq_true_eq] at h
  exact ⟨h.1, h.2.1⟩
/-- every number below the used ones is some known letter's -/
theorem chn_hit {kn : Nat → Bool} {cmp : Nat → Nat → Bool} {most : Nat} : ∀ {r : List Nat}, chn (okS kn cmp most) r → ∀ i, i < usN kn (pat r) r.length → ∃ d, d < r.length ∧ kn d = true ∧ pat r d = i
  | [], _, i, hi => absurd hi (by show ¬ i < 0; omega)
  | k :: ps, h, i, hi => by
    have hi : i < usN kn (pat (k :: ps)) (ps.length + 1) := hi
    rw [usN_cons] at hi
    by_cases hk : kn ps.length = true
    · obtain ⟨h1, -⟩ := okS_us hk h.1
      rw [if_pos hk] at hi
      by_cases hik : i < usN kn (pat ps) ps.length
      · obtain ⟨d, d1, d2, d3⟩ := chn_hit h.2 i hik
        exact ⟨d, by simp; omega, d2, by rw [pat_low d1]; exact d3⟩
      · have : i = k := by split at hi <;> omega
        subst this
        exact ⟨ps.length, by simp, hk, pat_top _ _⟩
    · rw [if_neg hk] at hi
      obtain ⟨d, d1, d2, d3⟩ := chn_hit h.2 i hi
      exact ⟨d, by simp; omega, d2, by rw [pat_low d1]; exact d3⟩
theorem chn_us {kn : Nat → Bool} {cmp : Nat → Nat → Bool} {most : Nat} : ∀ {r : List Nat}, chn (okS kn cmp most) r → usN kn (pat r) r.length ≤ most
  | [], _ => Nat.zero_le _
  | k :: ps, h => by
    have ih := chn_us h.2
    show usN kn (pat (k :: ps)) (ps.length + 1) ≤ most
    rw [usN_cons]
    by_cases hk : kn ps.length = true
    · obtain ⟨-, h2⟩ := okS_us hk h.1
      rw [if_pos hk]
      split <;> omega
    · rw [if_neg hk]; exact ih
theorem usN_mono {kn : Nat → Bool} {k : Nat} {ps : List Nat} : usN kn (pat ps) ps.length ≤ usN kn (pat (k :: ps)) (ps.length + 1) := by
  rw [usN_cons]
  split
  · split <;> omega
  · exact Nat.le_refl _
theorem chn_less {kn : Nat → Bool} {cmp : Nat → Nat → Bool} {most m2 : Nat} : ∀ {r : List Nat}, chn (okS kn cmp most) r → usN kn (pat r) r.length ≤ m2 → chn (okS kn cmp m2) r
  | [], _, _ => trivial
  | k :: ps, h, hu => by
    have hu : usN kn (pat (k :: ps)) (ps.length + 1) ≤ m2 := hu
    refine ⟨?_, chn_less h.2 (Nat.le_trans usN_mono hu)⟩
    have h1 := h.1
    by_cases hk : kn ps.length = true
    · rw [okS_kn hk] at h1 ⊢
      unfold okN at h1 ⊢
      simp only [Bool.and_eq_true, decide_eq_true_eq] at h1 ⊢
      refine ⟨h1.1, ?_, h1.2.2⟩
      have : pat (k :: ps) ps.length < usN kn (pat (k :: ps)) (ps.length + 1) := usN_lt (by omega) hk
      rw [pat_top] at this
      omega
    · unfold okS at h1 ⊢
      rw [if_neg hk] at h1 ⊢
      exact h1
theorem clR_chn (w : Nat → Int32) (side : Nat) : chn (okS (knW w) (cmpW w side) (clM w side)) (clR w side) ∧ (clR w side).length = 8 := by
  obtain ⟨h1, h2, h3⟩ := clM_spec w side
  have := sv_chn (n := 8) (ps := []) (f := 0) h2 trivial
  exact ⟨this.1, by rw [this.2]; rfl⟩
/-- as many classes as are in use -/
theorem clM_us (w : Nat → Int32) (side : Nat) : usN (knW w) (pat (clR w side)) 8 = clM w side := by
  obtain ⟨h1, h2, h3⟩ := clM_spec w side
  obtain ⟨c1, c2⟩ := clR_chn w side
  have hu := chn_us c1
  rw [c2] at hu
  rcases Nat.lt_or_ge (usN (knW w) (pat (clR w side)) 8) (clM w side) with h | h
  · exfalso
    have hn := h3 (usN (knW w) (pat (clR w side)) 8) h
    have hc := chn_less (m2 := usN (knW w) (pat (clR w side)) 8) c1 (by rw [c2]; exact Nat.le_refl _)
    have := sv_all hc (fun ps k hk => Nat.lt_succ_of_lt (okS_b (by omega) hk)) 8 (by omega)
    rw [show (clR w side).drop 8 = [] from List.drop_of_length_le (by omega)] at this
    exact this hn
  · omega
theorem clR_hit (w : Nat → Int32) (side : Nat) {i : Nat} (hi : i < clM w side) : ∃ d, d < 8 ∧ kn (w 0) d = true ∧ pat (clR w side) d = i := by
  obtain ⟨c1, c2⟩ := clR_chn w side
  have := chn_hit c1 i (by rw [c2, clM_us]; exact hi)
  rw [c2] at this
  exact this
theorem clR_lt (w : Nat → Int32) (side : Nat) {d : Nat} (hd : d < 8) (hk : kn (w 0) d = true) : pat (clR w side) d < clM w side := by
  rw [← clM_us]
  exact usN_lt hd hk
/-! counts -/
def cntB (p : Nat → Bool) : Nat → Nat
  | 0 => 0
  | k + 1 => cntB p k + (if p k then 1 else 0)
theorem cntB_le (p : Nat → Bool) : ∀ k, cntB p k ≤ k
  | 0 => Nat.le_refl _
  | k + 1 => by have := cntB_le p k; unfold cntB; split <;> omega
theorem cntB_pos {p : Nat → Bool} {j : Nat} (hj : p j = true) : ∀ {k}, j < k → 1 ≤ cntB p k
  | 0, h => absurd h (by omega)
  | k + 1, h => by
    unfold cntB
    by_cases hk : j = k
    · subst hk; rw [if_pos hj]; omega
    · have := cntB_pos hj (k := k) (by omega); omega
theorem bI_n (b : Bool) : bI b = nI (if b then 1 else 0) := by cases b <;> rfl
theorem winC_n (w q : Nat → Int32) (i j lo hi : Int32) : ∀ k, winC w q i j lo hi k = nI (cntB (inWin w q i j lo hi) k)
  | 0 => rfl
  | k + 1 => by
    show winC w q i j lo hi k + bI (inWin w q i j lo hi k) = _
    rw [winC_n w q i j lo hi k, bI_n, nI_add]
    rfl
theorem prC_n (w q : Nat → Int32) (i j : Int32) : ∀ k, prC w q i j k = nI (cntB (fun k => isInB w q (k / 8) (k % 8) i j) k)
  | 0 => rfl
  | k + 1 => by
    show prC w q i j k + bI (isInB w q (k / 8) (k % 8) i j) = _
    rw [prC_n w q i j k, bI_n, nI_add]
    rfl
/-- what stands below the line -/
def bel (w q : Nat → Int32) (i j : Int32) : Nat := if cntB (inWin w q i j (windowOf w q i j) (windowOf w q i j + nI 2 * w 2)) 64 = 0 then cntB (fun k => isInB w q (k / 8) (k % 8) i j) 64 else cntB (inWin w q i j (windowOf w q i j) (windowOf w q i j + nI 2 * w 2)) 64
theorem belowOf_n (w q : Nat → Int32) (i j : Int32) : belowOf w q i j = nI (bel w q i j) ∧ bel w q i j ≤ 64 := by
  have h1 := cntB_le (inWin w q i j (windowOf w q i j) (windowOf w q i j + nI 2 * w 2)) 64
  have h2 := cntB_le (fun k => isInB w q (k / 8) (k % 8) i j) 64
  unfold belowOf bel keptOf
  rw [winC_n, prC_n]
  by_cases h : cntB (inWin w q i j (windowOf w q i j) (windowOf w q i j + nI 2 * w 2)) 64 = 0
  · rw [if_pos h, if_pos (by rw [h]; decide)]
    exact ⟨rfl, h2⟩
  · rw [if_neg h, if_neg (nI_nle (by omega) (by omega))]
    exact ⟨rfl, h1⟩
theorem bel_pos {w q : Nat → Int32} {i j : Int32} {c d : Nat} (hc : c < 8) (hd : d < 8) (h : isInB w q c d i j = true) : 1 ≤ bel w q i j := by
  unfold bel
  split
  · refine cntB_pos (j := 8 * c + d) ?_ (by omega)
    show isInB w q ((8 * c + d) / 8) ((8 * c + d) % 8) i j = true
    rw [show (8 * c + d) / 8 = c by omega, show (8 * c + d) % 8 = d by omega]
    exact h
  · omega
theorem below_ne {w q : Nat → Int32} {i j : Int32} {c d : Nat} (hc : c < 8) (hd : d < 8) (h : isInB w q c d i j = true) : ¬ nI 2 * belowOf w q i j = 0 := by
  obtain ⟨e, hb⟩ := belowOf_n w q i j
  have := bel_pos hc hd h
  rw [e, pk_mul]
  exact nI_ne0 (by omega) (by omega)
theorem isInB_self {w q : Nat → Int32} {c d : Nat} (hc : kn (w 0) c = true) (hd : kn (w 0) d = true) : isInB w q c d (q (8 + c)) (q d) = true := by
  unfold isInB
  rw [hc, hd]
  simp
theorem below_ne_self {w q : Nat → Int32} {c d : Nat} (hc : c < 8) (hd : d < 8) (kc : kn (w 0) c = true) (kd : kn (w 0) d = true) : ¬ nI 2 * belowOf w q (q (8 + c)) (q d) = 0 := below_ne hc hd (isInB_self kc kd)
theorem cq_R (w : Nat → Int32) {c : Nat} (hc : c < 8) : cq w (8 + c) = nI (pat (clR w 1) c) := by
  unfold cq layQ
  rw [if_neg (by omega), if_pos (by omega), show 8 + c - 8 = c by omega]
theorem cq_L (w : Nat → Int32) {c : Nat} (hc : c < 8) : cq w c = nI (pat (clR w 0) c) := by
  unfold cq layQ
  rw [if_pos (by omega)]
/-- a cell of classes that there are holds a pair -/
theorem cell_in {w : Nat → Int32} {i j : Nat} (hi : i < clM w 1) (hj : j < clM w 0) : ∃ c d, c < 8 ∧ d < 8 ∧ kn (w 0) c = true ∧ kn (w 0) d = true ∧ isInB w (cq w) c d (nI i) (nI j) = true := by
  obtain ⟨c, c1, c2, c3⟩ := clR_hit w 1 hi
  obtain ⟨d, d1, d2, d3⟩ := clR_hit w 0 hj
  refine ⟨c, d, c1, d1, c2, d2, ?_⟩
  have := isInB_self (w := w) (q := cq w) c2 d2
  rw [cq_R w c1, cq_L w d1, c3, d3] at this
  exact this
theorem cell_ne {w : Nat → Int32} {i j : Nat} (hi : i < clM w 1) (hj : j < clM w 0) : ¬ nI 2 * belowOf w (cq w) (nI i) (nI j) = 0 := by
  obtain ⟨c, d, c1, d1, -, -, h⟩ := cell_in hi hj
  exact below_ne c1 d1 h
