section GJ
variable {X : CT} {l0 : Launch} {D0 : va_G} {own nm : String} {cc : ByteArray} {nL : Nat} {rt : Option FieldType} {rf rl mc ms : Nat} {Q : State → Prop} {ws : va_W} {ce sl pc : Nat} {L : List (Option Value)} {st : List Value}
variable {S : Type} {idx : Nat} {y : MethodName} {b : ByteArray} {maxL : Nat} {n rf' rl' mc' ms' : Nat} {As rest : List Value} {a : Nat} {wc : va_W} {post : Option Value → S → Prop} {wf : S → va_W}
theorem g_callJ (w1 nw : S → va_W) (hwf : ∀ u, wf u = w1 u ++ nw u) (hX : CX X l0 D0 own nm cc nL rt rf rl mc ms) (d : decode cc pc = .ok (.invokespecial idx, 3)) (cw : Cond.methodLink own idx y ∈ TB ∧ Cond.instanceMethod y ∈ TB ∧ Cond.code y b maxL none ∈ TB) (hini : Cond.initialized y.cls ∈ TB) (hy1 : y.name = "<init>") (hyd : y.cls ≠ "java/lang/invoke/MethodHandle" ∧ y.cls ≠ "java/lang/invoke/VarHandle" ∧ (parseMethodDescriptor y.desc).map (fun d => d.parameters.length) = some n)
    (hC : Ct l0 D0 y b maxL none rf' rl' mc' ms' (.ref a :: As) wc post wf) (is : List Nat) (hst : st = As.reverse ++ .ref a :: rest) (his : is.map (fun i => ws[i]?) = wc.map some) (hnd : va_nd is = true) (hn : As.length = n) (hsame : ∀ u, (w1 u).map Prod.fst = wc.map Prod.fst)
    (hroom : rf' + 1 ≤ rf ∧ 8 + (maxL + 11) + rl' ≤ rl) (hW : (rest.map fun v => v.category).sum ≤ 8) (hcs : ce + mc' ≤ mc ∧ sl + ms' ≤ ms)
    (kk : ∀ (v : Option Value) (u : S), post v u → G X Q (patch ws is (w1 u) ++ nw u) (ce + mc') (sl + ms') (pc + 3) L (v.toList ++ rest)) : G X Q ws ce sl pc L st := by
  obtain rfl : wf = fun u => w1 u ++ nw u := funext hwf
  exact g_callI hX d cw hini hy1 hyd hC is hst his hnd hn hsame hroom hW hcs kk
end GJ
