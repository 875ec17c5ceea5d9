/-! THE REFERENCE: partings, tried in their order -/
def pat (ps : List Nat) (d : Nat) : Nat := ps.getD (ps.length - 1 - d) 0
theorem pat_top (k : Nat) (ps : List Nat) : pat (k :: ps) ps.length = k := by
  unfold pat
  rw [show (k :: ps).length - 1 - ps.length = 0 by simp]
  rfl
theorem pat_low {k d : Nat} {ps : List Nat} (h : d < ps.length) : pat (k :: ps) d = pat ps d := by
  unfold pat
  rw [show (k :: ps).length - 1 - d = (ps.length - 1 - d) + 1 by simp; omega]
  rfl
theorem pat_b {ps : List Nat} {k B : Nat} (hk : k < B) (hp : ∀ d, d < ps.length → pat ps d < B) : ∀ d, d < (k :: ps).length → pat (k :: ps) d < B := by
  intro d hd
  rcases Nat.lt_or_ge d ps.length with h | h
  · rw [pat_low h]; exact hp d h
  · rw [show d = ps.length by simp at hd; omega, pat_top]; exact hk
def tryF {α : Type} (g : Nat → Option α) (ok : Nat → Bool) : Nat → Nat → Option α
  | 0, _ => none
  | m + 1, f => if ok f then (match g f with
    | some r => some r
    | none => tryF g ok m (f + 1)) else tryF g ok m (f + 1)
theorem tryF_s {α : Type} (g : Nat → Option α) (ok : Nat → Bool) (m f : Nat) : tryF g ok (m + 1) f = if ok f then (match g f with
    | some r => some r
    | none => tryF g ok m (f + 1)) else tryF g ok m (f + 1) := rfl
theorem tryF_none {α : Type} {g : Nat → Option α} {ok : Nat → Bool} : ∀ {m f : Nat}, fnd ok m f = none → tryF g ok m f = none
  | 0, f, _ => rfl
  | m + 1, f, h => by
    unfold fnd at h
    by_cases ho : ok f = true
    · rw [if_pos ho] at h; cases h
    · rw [if_neg ho] at h
      rw [tryF_s, if_neg ho]
      exact tryF_none h
theorem tryF_some {α : Type} {g : Nat → Option α} {ok : Nat → Bool} : ∀ {m f k : Nat}, fnd ok m f = some k → f ≤ k ∧ k < f + m ∧ ok k = true ∧ tryF g ok m f = (match g k with
    | some r => some r
    | none => tryF g ok (f + m - (k + 1)) (k + 1))
  | 0, f, k, h => by cases h
  | m + 1, f, k, h => by
    unfold fnd at h
    by_cases ho : ok f = true
    · rw [if_pos ho] at h
      cases h
      refine ⟨Nat.le_refl _, by omega, ho, ?_⟩
      rw [tryF_s, if_pos ho, show f + (m + 1) - (f + 1) = m by omega]
    · rw [if_neg ho] at h
      obtain ⟨h1, h2, h3, h4⟩ := tryF_some (g := g) h
      refine ⟨by omega, by omega, h3, ?_⟩
      rw [tryF_s, if_neg ho, h4, show f + 1 + m - (k + 1) = f + (m + 1) - (k + 1) by omega]
def okS (kn : Nat → Bool) (cmp : Nat → Nat → Bool) (most : Nat) (ps : List Nat) (k : Nat) : Bool := if kn ps.length then okN kn (cmp ps.length) (pat ps) ps.length most k else decide (k = 0)
def sv (ok : List Nat → Nat → Bool) : Nat → List Nat → Nat → Option (List Nat)
  | 0, ps, _ => some ps
  | n + 1, ps, f => tryF (fun k => sv ok n (k :: ps) 0) (ok ps) (9 - f) f
theorem okS_kn {kn : Nat → Bool} {cmp : Nat → Nat → Bool} {most : Nat} {ps : List Nat} (h : kn ps.length = true) : okS kn cmp most ps = okN kn (cmp ps.length) (pat ps) ps.length most := by
  funext k
  unfold okS
  rw [if_pos h]
theorem okS_u0 {kn : Nat → Bool} {cmp : Nat → Nat → Bool} {most : Nat} {ps : List Nat} (h : kn ps.length = false) : fnd (okS kn cmp most ps) (9 - 0) 0 = some 0 := by
  show (if okS kn cmp most ps 0 then some 0 else _) = some 0
  rw [if_pos]
  unfold okS
  rw [if_neg (by rw [h]; decide)]
  rfl
theorem okS_u1 {kn : Nat → Bool} {cmp : Nat → Nat → Bool} {most f : Nat} {ps : List Nat} (h : kn ps.length = false) (hf : ¬ f = 0) : fnd (okS kn cmp most ps) (9 - f) f = none := by
  apply fnd_none
  intro j hj
  unfold okS
  rw [if_neg (by rw [h]; decide), decide_eq_false (by omega)]
theorem okS_b {kn : Nat → Bool} {cmp : Nat → Nat → Bool} {most k : Nat} {ps : List Nat} (hm : most ≤ 8) (h : okS kn cmp most ps k = true) : k < 8 := by
  unfold okS at h
  by_cases hk : kn ps.length = true
  · rw [if_pos hk] at h
    unfold okN at h
    simp only [Bool.and_eq_true, decide_eq_true_eq] at h
    omega
  · rw [if_neg hk] at h
    simp only [decide_eq_true_eq] at h
    omega
/-- the parting of a side into so many classes at most -/
def svR (w : Nat → Int32) (side most : Nat) : Option (List Nat) := sv (okS (knW w) (cmpW w side) most) 8 [] 0
