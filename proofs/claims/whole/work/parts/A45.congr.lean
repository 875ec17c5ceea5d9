/-! an array of references speaks of its places alone -/
theorem g_congR {X : CT} {Q : State → Prop} {ws ws' : va_W} {ce sl pc : Nat} {L : List (Option Value)} {st : List Value} {a n : Nat} {cA : ClassId} {f g : Nat → Option Nat} (q : Nat) (he : ws[q]? = some (a, .inl (cA, n, .inr (.inr (.inr (.inr f)))))) (hf : ∀ k, k < n → f k = g k) (hw : ws.set q (a, .inl (cA, n, .inr (.inr (.inr (.inr g))))) = ws') (kk : G X Q ws' ce sl pc L st) : G X Q ws ce sl pc L st := by
  subst hw
  obtain ⟨p, l, e, R, s, m, args, below, meth, c, D, A⟩ := X
  intro H locs ls hP hD hS h
  have hq := (List.getElem?_eq_some_iff.mp he).1
  refine kk H locs ls ?_ (va_D.ofFst hD ?_) hS h
  · intro k z hz
    by_cases hk : q = k
    · subst hk
      rw [List.getElem?_set_self hq] at hz
      cases hz
      have h1 : H[a]? = some (vp_cell cA (n, .inr (.inr (.inr (.inr f))))) := hP q _ he
      show H[a]? = some (vp_cell cA (n, .inr (.inr (.inr (.inr g)))))
      rw [h1, vp_cell_q, vp_cell_q, arrV_cong (g := fun j => va_rf (g j)) (fun k hk => by rw [hf k hk])]
    · rw [List.getElem?_set_ne hk] at hz
      exact hP k z hz
  · rw [List.map_set]
    apply List.ext_getElem?
    intro k
    by_cases hk : q = k
    · subst hk
      rw [List.getElem?_set_self (by simpa using hq), List.getElem?_map, he]
      rfl
    · rw [List.getElem?_set_ne hk]
