/-! a call whose world lies side by side in the caller's -/
theorem nd_range (p : Nat) : ∀ n, va_nd ((List.range n).map (· + p)) = true := by
  intro n
  suffices h : ∀ l : List Nat, l.Nodup → va_nd l = true by
    refine h _ ?_
    refine List.Pairwise.map _ ?_ (List.nodup_range (n := n))
    intro a b hab e
    exact hab (by omega)
  intro l
  induction l with
  | nil => intro _; rfl
  | cons a l ih =>
    intro hn
    have := List.nodup_cons.mp hn
    simp [va_nd, this.1, ih this.2]
theorem his_mid (pr wc rs : va_W) : ((List.range wc.length).map (· + pr.length)).map (fun i => (pr ++ wc ++ rs)[i]?) = wc.map some := by
  apply List.ext_getElem?
  intro k
  rw [List.getElem?_map, List.getElem?_map, List.getElem?_map]
  by_cases h : k < wc.length
  · rw [List.getElem?_range h, List.getElem?_eq_getElem h]
    show some ((pr ++ wc ++ rs)[k + pr.length]?) = some (some _)
    rw [List.append_assoc, List.getElem?_append_right (by omega), show k + pr.length - pr.length = k by omega, List.getElem?_append_left h, List.getElem?_eq_getElem h]
  · rw [List.getElem?_eq_none (by simpa using h), List.getElem?_eq_none (by simpa using h)]
    rfl
theorem patch_mid : ∀ (pr wc es rs : va_W), es.length = wc.length → patch (pr ++ wc ++ rs) ((List.range wc.length).map (· + pr.length)) es = pr ++ es ++ rs := by
  intro pr wc
  induction wc generalizing pr with
  | nil =>
    intro es rs h
    cases es with
    | nil => rfl
    | cons e es => simp at h
  | cons c wc ih =>
    intro es rs h
    cases es with
    | nil => simp at h
    | cons e es =>
      have h : es.length = wc.length := by simpa using h
      have e1 : (List.range (c :: wc).length).map (· + pr.length) = pr.length :: (List.range wc.length).map (· + (pr ++ [e]).length) := by
        rw [List.length_cons, List.range_succ_eq_map, List.map_cons, List.map_map]
        congr 1
        · omega
        · apply List.map_congr_left
          intro a _
          simp
          omega
      rw [e1]
      show patch ((pr ++ c :: wc ++ rs).set pr.length e) _ es = _
      have e2 : (pr ++ c :: wc ++ rs).set pr.length e = (pr ++ [e]) ++ wc ++ rs := by
        rw [List.append_assoc, List.set_append_right _ _ (Nat.le_refl _), Nat.sub_self]
        simp
      rw [e2, ih (pr ++ [e]) es rs h]
      simp
section GP
variable {X : CT} {l0 : Launch} {D0 : va_G} {own nm : String} {cc : ByteArray} {nL : Nat} {rt : Option FieldType} {rf rl mc ms : Nat} {Q : State → Prop} {ws : va_W} {ce sl pc : Nat} {L : List (Option Value)} {st : List Value}
variable {S : Type} {idx : Nat} {y : MethodName} {b : ByteArray} {maxL : Nat} {ret : Option FieldType} {n rf' rl' mc' ms' : Nat} {As rest : List Value} {a : Nat} {wc : va_W} {post : Option Value → S → Prop} {wf : S → va_W}
theorem g_callP (hX : CX X l0 D0 own nm cc nL rt rf rl mc ms) (d : decode cc pc = .ok (.invokevirtual idx, 3)) (cw : CW own idx y b maxL ret n) (hC : Ct l0 D0 y b maxL ret rf' rl' mc' ms' (.ref a :: As) wc post wf) (q0 ci : Nat) {fs : List Value} {T : u_T} {N : Nat} (pr rs : va_W) (hws : ws = pr ++ wc ++ rs) (hst : st = As.reverse ++ .ref a :: rest) (hq : ws[q0]? = some (a, .inr (ci, fs))) (hci : vwCl[ci]? = some (y.cls, T, N)) (hn : As.length = n) (hsame : ∀ u, (wf u).map Prod.fst = wc.map Prod.fst)
    (hroom : rf' + 1 ≤ rf ∧ 8 + (maxL + 11) + rl' ≤ rl) (hW : (rest.map fun v => v.category).sum ≤ 8) (hcs : ce + mc' ≤ mc ∧ sl + ms' ≤ ms)
    (kk : ∀ (v : Option Value) (u : S), post v u → G X Q (pr ++ wf u ++ rs) (ce + mc') (sl + ms') (pc + 3) L (v.toList ++ rest)) : G X Q ws ce sl pc L st := by
  subst hws
  refine g_call hX d cw hC q0 ci ((List.range wc.length).map (· + pr.length)) hst (his_mid pr wc rs) hq hci (nd_range _ _) hn hsame hroom hW hcs (fun v u hp => ?_)
  rw [patch_mid pr wc (wf u) rs (by have := congrArg List.length (hsame u); simpa using this)]
  exact kk v u hp
end GP
