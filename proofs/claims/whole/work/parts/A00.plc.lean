/-! placing the letters, one after another -/
def clI (K : Nat → Bool) (ps : List Nat) (d : Nat) : Int32 := if K d then nI (pat ps d) else (-1)
def lkI (K : Nat → Bool) (C : Nat → Nat → Bool) (d : Nat) : Int32 := if K d then bset (fun e => K e && C d e) 8 else nI 0
def lkOk (K : Nat → Bool) (C : Nat → Nat → Bool) (lk : Nat → Int32) : Prop := (∀ d, d < 8 → lk d = lkI K C d) ∧ ∀ d, d < 8 → K d = true → ¬ lkI K C d = 0
def plH (K : Nat → Bool) (C : Nat → Nat → Bool) (most : Nat) (lk cO mb : Nat → Int32) (ps : List Nat) (c us : Nat) : Prop :=
  ps.length = c ∧ us = usN K (pat ps) c ∧ us ≤ c ∧ us ≤ most ∧ most ≤ 8 ∧ lkOk K C lk ∧ (∀ d, d < c → cO d = clI K ps d) ∧ (∀ k, k < us → mb k = bset (memF K (pat ps) c k) 8)
/-- what placing comes to -/
def plP (K : Nat → Bool) (C : Nat → Nat → Bool) (most n : Nat) (ps : List Nat) (us : Nat) (cO mb cO2 mb2 : Nat → Int32) (ct2 : Int32) : Prop :=
  (sv (okS K C most) n ps 0 = none → (∀ d, d < ps.length → cO2 d = cO d) ∧ (∀ k, k < us → mb2 k = mb k)) ∧
  (∀ r, sv (okS K C most) n ps 0 = some r → (∀ d, d < 8 → cO2 d = clI K r d) ∧ ct2 = nI (usN K (pat r) 8))
section
variable {K : Nat → Bool} {C : Nat → Nat → Bool} {most : Nat} {lk cO mb : Nat → Int32} {ps : List Nat} {c us : Nat}
theorem plH.len (H : plH K C most lk cO mb ps c us) : ps.length = c := H.1
theorem plH.usc (H : plH K C most lk cO mb ps c us) : us ≤ c := H.2.2.1
theorem plH.mst (H : plH K C most lk cO mb ps c us) : us ≤ most ∧ most ≤ 8 := ⟨H.2.2.2.1, H.2.2.2.2.1⟩
theorem plH.same (H : plH K C most lk cO mb ps c us) {cO2 mb2 : Nat → Int32} (h1 : ∀ d, d < c → cO2 d = cO d) (h2 : ∀ k, k < us → mb2 k = mb k) : plH K C most lk cO2 mb2 ps c us := by
  obtain ⟨a1, a2, a3, a4, a5, a6, a7, a8⟩ := H
  exact ⟨a1, a2, a3, a4, a5, a6, fun d hd => (h1 d hd).trans (a7 d hd), fun k hk => (h2 k hk).trans (a8 k hk)⟩
theorem plH.un (H : plH K C most lk cO mb ps c us) (hc : c < 8) (h : lk c = 0) : K c = false := by
  have h6 := H.2.2.2.2.2.1
  cases hk : K c with
  | false => rfl
  | true => exact absurd ((h6.1 c hc).symm.trans h) (h6.2 c hc hk)
theorem plH.kn (H : plH K C most lk cO mb ps c us) (hc : c < 8) (h : ¬ lk c = 0) : K c = true := by
  have h6 := H.2.2.2.2.2.1
  cases hk : K c with
  | true => rfl
  | false =>
    exfalso
    apply h
    rw [h6.1 c hc]
    unfold lkI
    rw [if_neg (by rw [hk]; decide)]
    rfl
theorem clI_low {k d : Nat} (h : d < ps.length) : clI K (k :: ps) d = clI K ps d := by
  unfold clI
  rw [pat_low h]
theorem plH.skip (H : plH K C most lk cO mb ps c us) (hc : c < 8) (h : lk c = 0) : plH K C most lk (upd cO c (-1)) mb (0 :: ps) (c + 1) us := by
  have hk := H.un hc h
  obtain ⟨a1, a2, a3, a4, a5, a6, a7, a8⟩ := H
  subst a1
  refine ⟨by simp, ?_, by omega, a4, a5, a6, fun d hd => ?_, fun k hk2 => ?_⟩
  · rw [usN_cons, if_neg (by rw [hk]; decide)]; exact a2
  · rw [upd_at]
    by_cases e : d = ps.length
    · rw [if_pos e, e]
      unfold clI
      rw [if_neg (by rw [hk]; decide)]
    · rw [if_neg e, clI_low (by omega)]
      exact a7 d (by omega)
  · rw [mem_skip hk]; exact a8 k hk2
theorem sv_skip {n : Nat} (hk : K ps.length = false) : sv (okS K C most) (n + 1) ps 0 = sv (okS K C most) n (0 :: ps) 0 := by
  show tryF (fun k => sv (okS K C most) n (k :: ps) 0) (okS K C most ps) (9 - 0) 0 = _
  refine tl_last (g := fun k => sv (okS K C most) n (k :: ps) 0) (by omega) ?_ ?_
  · unfold okS; rw [if_neg (by rw [hk]; decide)]; rfl
  · intro j hj
    unfold okS; rw [if_neg (by rw [hk]; decide), decide_eq_false (by omega)]
theorem plP.skip {n : Nat} {cO2 mb2 : Nat → Int32} {ct2 : Int32} (H : plH K C most lk cO mb ps c us) (hc : c < 8) (h : lk c = 0) (hp : plP K C most n (0 :: ps) us (upd cO c (-1)) mb cO2 mb2 ct2) : plP K C most (n + 1) ps us cO mb cO2 mb2 ct2 := by
  have hk := H.un hc h
  have hl := H.len
  unfold plP at hp ⊢
  rw [sv_skip (by rw [hl]; exact hk)]
  refine ⟨fun hn => ?_, hp.2⟩
  obtain ⟨b1, b2⟩ := hp.1 hn
  refine ⟨fun d hd => ?_, b2⟩
  rw [b1 d (by simp; omega), upd_at, if_neg (by omega)]
theorem plH.fit (H : plH K C most lk cO mb ps c us) (hc : c < 8) (hk : K c = true) {k : Nat} (hku : k < us) : (mb k &&& (lk c ^^^ (-1)) = 0) ↔ okS K C most ps k = true := by
  obtain ⟨a1, a2, a3, a4, a5, a6, a7, a8⟩ := H
  subst a1
  rw [a8 k hku, a6.1 _ hc]
  unfold lkI
  rw [if_pos hk, fit_sub (by omega), okS_kn hk]
  unfold okN
  rw [decide_eq_true (show k ≤ usN K (pat ps) ps.length by omega), decide_eq_true (show k < most by omega)]
  simp
theorem plH.inn (H : plH K C most lk cO mb ps c us) (hc : c < 8) (hk : K c = true) {k : Nat} (hku : k < us) : plH K C most lk (upd cO c (nI k)) (upd mb k (mb k ||| bt c)) (k :: ps) (c + 1) us := by
  obtain ⟨a1, a2, a3, a4, a5, a6, a7, a8⟩ := H
  subst a1
  refine ⟨by simp, ?_, by omega, a4, a5, a6, fun d hd => ?_, fun j hj => ?_⟩
  · rw [usN_cons, if_pos hk, if_pos (by omega)]; exact a2
  · rw [upd_at]
    by_cases e : d = ps.length
    · rw [if_pos e, e]
      unfold clI
      rw [if_pos hk, pat_top]
    · rw [if_neg e, clI_low (by omega)]
      exact a7 d (by omega)
  · rw [mem_add hc hk, upd_at]
    by_cases e : j = k
    · rw [if_pos e, if_pos e, e, a8 k hku]
    · rw [if_neg e, if_neg e, a8 j hj]
theorem plH.new (H : plH K C most lk cO mb ps c us) (hc : c < 8) (hk : K c = true) (hm : us < most) : plH K C most lk (upd cO c (nI us)) (upd mb us (bt c)) (us :: ps) (c + 1) (us + 1) := by
  obtain ⟨a1, a2, a3, a4, a5, a6, a7, a8⟩ := H
  subst a1
  refine ⟨by simp, ?_, by omega, by omega, a5, a6, fun d hd => ?_, fun j hj => ?_⟩
  · rw [usN_cons, if_pos hk, if_neg (by omega)]
  · rw [upd_at]
    by_cases e : d = ps.length
    · rw [if_pos e, e]
      unfold clI
      rw [if_pos hk, pat_top]
    · rw [if_neg e, clI_low (by omega)]
      exact a7 d (by omega)
  · rw [mem_add hc hk, upd_at]
    by_cases e : j = us
    · rw [if_pos e, if_pos e, e]
      have : bset (memF K (pat ps) ps.length us) 8 = 0 := by
        refine bset_z.mpr (fun i hi => ?_)
        unfold memF
        by_cases h1 : i < ps.length
        · by_cases h2 : K i = true
          · have := usN_lt (p := pat ps) h1 h2
            rw [decide_eq_false (show ¬ pat ps i = us by omega)]; simp
          · simp at h2; rw [h2]; simp
        · rw [decide_eq_false h1]; rfl
      rw [this, Int32.zero_or]
    · rw [if_neg e, if_neg e, a8 j (by omega)]
/-- ahead of trying number k -/
def plR (K : Nat → Bool) (C : Nat → Nat → Bool) (most n : Nat) (ps : List Nat) (k : Nat) : Prop := sv (okS K C most) (n + 1) ps 0 = tryF (fun k => sv (okS K C most) n (k :: ps) 0) (okS K C most ps) (9 - k) k
theorem plR.zero {n : Nat} : plR K C most n ps 0 := rfl
theorem plR.no {n k : Nat} (h : plR K C most n ps k) (hk : k < 8) (ho : ¬ okS K C most ps k = true) : plR K C most n ps (k + 1) := by
  unfold plR at h ⊢
  rw [h]
  exact tl_no (by omega) (by simpa using ho)
theorem plR.none {n k : Nat} (h : plR K C most n ps k) (hk : k < 8) (ho : okS K C most ps k = true) (hn : (sv (okS K C most) n (k :: ps) 0).isSome = false) : plR K C most n ps (k + 1) := by
  unfold plR at h ⊢
  rw [h]
  exact tl_none (g := fun k => sv (okS K C most) n (k :: ps) 0) (by omega) ho (by simpa using hn)
theorem plR.some {n k : Nat} (h : plR K C most n ps k) (hk : k < 8) (ho : okS K C most ps k = true) (hn : (sv (okS K C most) n (k :: ps) 0).isSome = true) : sv (okS K C most) (n + 1) ps 0 = sv (okS K C most) n (k :: ps) 0 := by
  unfold plR at h
  rw [h]
  cases hg : sv (okS K C most) n (k :: ps) 0 with
  | none => rw [hg] at hn; cases hn
  | some r => exact tl_some (g := fun k => sv (okS K C most) n (k :: ps) 0) (by omega) ho hg
theorem plR.full {n : Nat} (h : plR K C most n ps us) (H : plH K C most lk cO mb ps c us) (hk : K c = true) (hm : ¬ us < most) : sv (okS K C most) (n + 1) ps 0 = .none := by
  obtain ⟨a1, a2, a3, a4, a5, a6, a7, a8⟩ := H
  subst a1
  unfold plR at h
  rw [h]
  refine tl_end (fun j hj => ?_)
  rw [okS_kn hk]
  unfold okN
  rw [decide_eq_false (show ¬ j < most by omega)]
  simp
theorem plR.last {n : Nat} (h : plR K C most n ps us) (H : plH K C most lk cO mb ps c us) (hc : c < 8) (hk : K c = true) (hm : us < most) : sv (okS K C most) (n + 1) ps 0 = sv (okS K C most) n (us :: ps) 0 := by
  obtain ⟨a1, a2, a3, a4, a5, a6, a7, a8⟩ := H
  subst a1
  unfold plR at h
  rw [h]
  refine tl_last (g := fun k => sv (okS K C most) n (k :: ps) 0) (by omega) ?_ (fun j hj => ?_)
  · rw [okS_kn hk]
    unfold okN
    rw [decide_eq_true (show us ≤ usN K (pat ps) ps.length by omega), decide_eq_true hm, fitN_new (fun d hd hkd => by have := usN_lt (p := pat ps) hd hkd; omega)]
    rfl
  · rw [okS_kn hk]
    unfold okN
    rw [decide_eq_false (show ¬ j ≤ usN K (pat ps) ps.length by omega)]
    rfl
/-- what is restored stands as before -/
def plE (c us : Nat) (cO mb cO2 mb2 : Nat → Int32) : Prop := (∀ d, d < c → cO2 d = cO d) ∧ ∀ k, k < us → mb2 k = mb k
theorem plE.id : plE c us cO mb cO mb := ⟨fun _ _ => rfl, fun _ _ => rfl⟩
theorem plE.back {n k : Nat} {cO1 mb1 cO2 mb2 : Nat → Int32} {ct2 : Int32} (h : plE c us cO mb cO1 mb1) (H : plH K C most lk cO1 mb1 ps c us) (hc : c < 8) (hku : k < us) (hn : (sv (okS K C most) n (k :: ps) 0).isSome = false) (hp : plP K C most n (k :: ps) us (upd cO1 c (nI k)) (upd mb1 k (mb1 k ||| bt c)) cO2 mb2 ct2) : plE c us cO mb cO2 (upd mb2 k (mb2 k &&& (bt c ^^^ (-1)))) := by
  obtain ⟨b1, b2⟩ := hp.1 (by simpa using hn)
  have hl := H.len
  refine ⟨fun d hd => ?_, fun j hj => ?_⟩
  · rw [b1 d (by simp; omega), upd_at, if_neg (by omega)]; exact h.1 d hd
  · rw [upd_at]
    by_cases e : j = k
    · rw [if_pos e, b2 k hku, upd_at, if_pos rfl, e, ← h.2 k hku, H.2.2.2.2.2.2.2 k hku]
      subst hl
      exact mem_del hc
    · rw [if_neg e, b2 j hj, upd_at, if_neg e]; exact h.2 j hj
theorem plP.none {n : Nat} {cO2 mb2 : Nat → Int32} {ct2 : Int32} (hl : ps.length = c) (h : plE c us cO mb cO2 mb2) (hn : sv (okS K C most) n ps 0 = .none) : plP K C most n ps us cO mb cO2 mb2 ct2 := by
  subst hl
  refine ⟨fun _ => h, fun r hr => ?_⟩
  rw [hn] at hr; cases hr
theorem plP.some {n us2 : Nat} {ps2 : List Nat} {cO1 mb1 cO2 mb2 : Nat → Int32} {ct2 : Int32} (he : sv (okS K C most) (n + 1) ps 0 = sv (okS K C most) n ps2 0) (hs : (sv (okS K C most) n ps2 0).isSome = true) (hp : plP K C most n ps2 us2 cO1 mb1 cO2 mb2 ct2) : plP K C most (n + 1) ps us cO mb cO2 mb2 ct2 := by
  unfold plP
  rw [he]
  refine ⟨fun hn => ?_, hp.2⟩
  rw [hn] at hs; cases hs
theorem plP.last {n : Nat} {cO1 mb1 cO2 mb2 : Nat → Int32} {ct2 : Int32} (hl : ps.length = c) (h : plE c us cO mb cO1 mb1) (he : sv (okS K C most) (n + 1) ps 0 = sv (okS K C most) n (us :: ps) 0) (hp : plP K C most n (us :: ps) (us + 1) (upd cO1 c (nI us)) (upd mb1 us (bt c)) cO2 mb2 ct2) : plP K C most (n + 1) ps us cO mb cO2 mb2 ct2 := by
  unfold plP at hp ⊢
  rw [he]
  refine ⟨fun hn => ?_, hp.2⟩
  obtain ⟨b1, b2⟩ := hp.1 hn
  refine ⟨fun d hd => ?_, fun k hk => ?_⟩
  · rw [b1 d (by simp; omega), upd_at, if_neg (by omega)]; exact h.1 d (by omega)
  · rw [b2 k (by omega), upd_at, if_neg (by omega)]; exact h.2 k hk
theorem plP.done (H : plH K C most lk cO mb ps 8 us) : plP K C most 0 ps us cO mb cO mb (nI us) := by
  obtain ⟨a1, a2, a3, a4, a5, a6, a7, a8⟩ := H
  refine ⟨fun h => (by cases h), fun r hr => ?_⟩
  cases hr
  exact ⟨a7, by rw [a2]⟩
end
