/-! as few classes as do: there is a parting into eight; the least number -/
theorem usN_cong {kn : Nat → Bool} {p p2 : Nat → Nat} : ∀ {d : Nat}, (∀ j, j < d → p j = p2 j) → usN kn p d = usN kn p2 d
  | 0, _ => rfl
  | d + 1, h => by
    unfold usN
    rw [usN_cong (d := d) (fun j hj => h j (by omega)), h d (by omega)]
theorem fitN_cong {kn cmp : Nat → Bool} {p p2 : Nat → Nat} {num : Nat} : ∀ {d : Nat}, (∀ j, j < d → p j = p2 j) → fitN kn cmp p num d = fitN kn cmp p2 num d
  | 0, _ => rfl
  | d + 1, h => by
    unfold fitN
    rw [fitN_cong (d := d) (fun j hj => h j (by omega)), h d (by omega)]
theorem usN_lt {kn : Nat → Bool} {p : Nat → Nat} : ∀ {c d : Nat}, d < c → kn d = true → p d < usN kn p c
  | 0, d, h, _ => absurd h (by omega)
  | c + 1, d, h, hk => by
    unfold usN
    by_cases hd : d = c
    · subst hd
      rw [if_pos hk]
      by_cases h2 : p d < usN kn p d
      · rw [if_pos h2]; exact h2
      · rw [if_neg h2]; omega
    · have ih := usN_lt (kn := kn) (p := p) (c := c) (d := d) (by omega) hk
      by_cases h1 : kn c = true
      · rw [if_pos h1]
        by_cases h2 : p c < usN kn p c
        · rw [if_pos h2]; exact ih
        · rw [if_neg h2]; omega
      · rw [if_neg h1]; exact ih
theorem fitN_new {kn cmp : Nat → Bool} {p : Nat → Nat} {num : Nat} : ∀ {c : Nat}, (∀ d, d < c → kn d = true → p d ≠ num) → fitN kn cmp p num c = true
  | 0, _ => rfl
  | c + 1, h => by
    unfold fitN
    rw [fitN_new (c := c) (fun d hd hk => h d (by omega) hk)]
    cases hk : kn c with
    | false => rfl
    | true =>
      rw [decide_eq_false (h c (by omega) hk)]
      rfl
theorem tryF_ne {α : Type} {g : Nat → Option α} {ok : Nat → Bool} {k : Nat} (hk : ok k = true) (hg : g k ≠ none) : ∀ {m f : Nat}, f ≤ k → k < f + m → tryF g ok m f ≠ none
  | 0, f, h1, h2 => absurd h2 (by omega)
  | m + 1, f, h1, h2 => by
    rw [tryF_s]
    by_cases hf : f = k
    · subst hf
      rw [if_pos hk]
      cases hv : g f with
      | none => exact absurd hv hg
      | some r => simp
    · have ih := tryF_ne (m := m) (f := f + 1) hk hg (by omega) (by omega)
      by_cases ho : ok f = true
      · rw [if_pos ho]
        cases hv : g f with
        | none => exact ih
        | some r => simp
      · rw [if_neg ho]; exact ih
theorem usN_cons {kn : Nat → Bool} {k : Nat} {ps : List Nat} : usN kn (pat (k :: ps)) (ps.length + 1) = if kn ps.length then (if k < usN kn (pat ps) ps.length then usN kn (pat ps) ps.length else k + 1) else usN kn (pat ps) ps.length := by
  show (if kn ps.length then (if pat (k :: ps) ps.length < usN kn (pat (k :: ps)) ps.length then usN kn (pat (k :: ps)) ps.length else pat (k :: ps) ps.length + 1) else usN kn (pat (k :: ps)) ps.length) = _
  rw [usN_cong (p := pat (k :: ps)) (p2 := pat ps) (fun j hj => pat_low hj), pat_top]
theorem sv_8 {kn : Nat → Bool} {cmp : Nat → Nat → Bool} : ∀ (n : Nat) (ps : List Nat), ps.length + n = 8 → usN kn (pat ps) ps.length ≤ ps.length → sv (okS kn cmp 8) n ps 0 ≠ none
  | 0, ps, _, _ => by simp [sv]
  | n + 1, ps, hl, hu => by
    show tryF (fun k => sv (okS kn cmp 8) n (k :: ps) 0) (okS kn cmp 8 ps) (9 - 0) 0 ≠ none
    by_cases hk : kn ps.length = true
    · refine tryF_ne (g := fun k => sv (okS kn cmp 8) n (k :: ps) 0) (m := 9 - 0) (f := 0) (k := usN kn (pat ps) ps.length) ?_ (sv_8 n (usN kn (pat ps) ps.length :: ps) (by simp; omega) ?_) (by omega) (by omega)
      · rw [okS_kn hk]
        unfold okN
        rw [decide_eq_true (Nat.le_refl _), decide_eq_true (by omega), fitN_new (fun d hd hkd => Nat.ne_of_lt (usN_lt hd hkd))]
        rfl
      · show usN kn (pat (usN kn (pat ps) ps.length :: ps)) (ps.length + 1) ≤ ps.length + 1
        rw [usN_cons, if_pos hk, if_neg (Nat.lt_irrefl _)]
        omega
    · refine tryF_ne (g := fun k => sv (okS kn cmp 8) n (k :: ps) 0) (m := 9 - 0) (f := 0) (k := 0) ?_ (sv_8 n (0 :: ps) (by simp; omega) ?_) (by omega) (by omega)
      · unfold okS
        rw [if_neg hk]
        rfl
      · show usN kn (pat (0 :: ps)) (ps.length + 1) ≤ ps.length + 1
        rw [usN_cons, if_neg hk]
        omega
theorem fnd_spec {ok : Nat → Bool} : ∀ {n k : Nat}, (∃ j, k ≤ j ∧ j < k + n ∧ ok j = true) → ∃ m, fnd ok n k = some m ∧ k ≤ m ∧ m < k + n ∧ ok m = true ∧ ∀ j, k ≤ j → j < m → ok j = false
  | 0, k, h => by obtain ⟨j, h1, h2, -⟩ := h; omega
  | n + 1, k, h => by
    unfold fnd
    by_cases ho : ok k = true
    · rw [if_pos ho]
      exact ⟨k, rfl, Nat.le_refl _, by omega, ho, fun j h1 h2 => by omega⟩
    · rw [if_neg ho]
      obtain ⟨j, h1, h2, h3⟩ := h
      have hjk : j ≠ k := fun e => ho (e ▸ h3)
      obtain ⟨m, e1, e2, e3, e4, e5⟩ := fnd_spec (n := n) (k := k + 1) ⟨j, by omega, by omega, h3⟩
      refine ⟨m, e1, by omega, by omega, e4, fun i h4 h5 => ?_⟩
      by_cases hik : i = k
      · subst hik
        cases hh : ok i with
        | false => rfl
        | true => exact absurd hh ho
      · exact e5 i (by omega) h5
/-- how many classes; the parting -/
def clM (w : Nat → Int32) (side : Nat) : Nat := (fnd (fun m => (svR w side m).isSome) 9 0).getD 0
def clR (w : Nat → Int32) (side : Nat) : List Nat := (svR w side (clM w side)).getD []
theorem clM_spec (w : Nat → Int32) (side : Nat) : clM w side ≤ 8 ∧ svR w side (clM w side) = some (clR w side) ∧ ∀ m, m < clM w side → svR w side m = none := by
  have h8 : (svR w side 8).isSome = true := by
    have := sv_8 (kn := knW w) (cmp := cmpW w side) 8 [] rfl (Nat.le_refl _)
    cases h : svR w side 8 with
    | none => exact absurd h this
    | some r => rfl
  obtain ⟨m, e1, e2, e3, e4, e5⟩ := fnd_spec (ok := fun m => (svR w side m).isSome) (n := 9) (k := 0) ⟨8, by omega, by omega, h8⟩
  have hm : clM w side = m := by unfold clM; rw [e1]; rfl
  refine ⟨by omega, ?_, fun j hj => ?_⟩
  · unfold clR
    rw [hm]
    cases h : svR w side m with
    | none => simp [h] at e4
    | some r => rfl
  · have := e5 j (by omega) (by omega)
    cases h : svR w side j with
    | none => rfl
    | some r => simp [h] at this
def layQ (w q : Nat → Int32) : Nat → Int32 := fun k => if k < 8 then nI (pat (clR w 0) k) else if k < 16 then nI (pat (clR w 1) (k - 8)) else q k
def layC (w cl : Nat → Int32) : Nat → Int32 := upd (upd cl 0 (nI (clM w 0))) 1 (nI (clM w 1))
