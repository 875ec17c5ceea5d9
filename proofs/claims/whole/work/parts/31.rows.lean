/-! booleans; calls by kind of answer -/
theorem bI_t {c : Prop} [Decidable c] (h : c) : nI 1 = bI (decide c) := by rw [decide_eq_true h]; rfl
theorem bI_f {c : Prop} [Decidable c] (h : ¬ c) : nI 0 = bI (decide c) := by rw [decide_eq_false h]; rfl
theorem bI_nt {c : Prop} [Decidable c] (h : c) : nI 0 = bI (!decide c) := by rw [decide_eq_true h]; rfl
theorem bI_nf {c : Prop} [Decidable c] (h : ¬ c) : nI 1 = bI (!decide c) := by rw [decide_eq_false h]; rfl
theorem bI_0 {b : Bool} : bI b = 0 ↔ b = false := by cases b <;> decide
theorem patch_self : ∀ (is : List Nat) (ws wc : va_W), is.map (fun i => ws[i]?) = wc.map some → patch ws is wc = ws
  | [], ws, wc, _ => by cases wc <;> rfl
  | i :: is, ws, [], h => by simp at h
  | i :: is, ws, c :: wc, h => by
    simp only [List.map_cons, List.cons.injEq] at h
    have e : ws.set i c = ws := by
      apply List.ext_getElem?
      intro k
      by_cases hk : k = i
      · subst hk
        rw [List.getElem?_set_self (List.getElem?_eq_some_iff.mp h.1).1, h.1]
      · rw [List.getElem?_set_ne (Ne.symm hk)]
    show patch (ws.set i c) is wc = ws
    rw [e]
    exact patch_self is ws wc h.2
section GK
variable {X : CT} {l0 : Launch} {D0 : va_G} {own nm : String} {cc : ByteArray} {nL : Nat} {rt : Option FieldType} {rf rl mc ms : Nat} {Q : State → Prop} {ws : va_W} {ce sl pc : Nat} {L : List (Option Value)} {st : List Value}
variable {idx : Nat} {y : MethodName} {b : ByteArray} {maxL : Nat} {ret : Option FieldType} {n rf' rl' : Nat} {As rest : List Value} {a : Nat} {wc w1 ws' : va_W} {fs : List Value} {T : u_T} {N : Nat} {r : Int32} {r64 : Int64}
theorem g_ifb_eq (hX : CX X l0 D0 own nm cc nL rt rf rl mc ms) {x : Bool} {off : Int} {tgt : Nat} (d : decode cc pc = .ok (.ifCond .eq off, 3)) (ht : (pc : Int) + off = (tgt : Int)) (kt : x = false → G X Q ws ce sl tgt L st) (kf : x = true → G X Q ws ce sl (pc + 3) L st) : G X Q ws ce sl pc L (.int (bI x) :: st) :=
  g_if_eq hX d ht (fun h => kt (bI_0.mp h)) (fun h => kf (by cases x; exact absurd rfl h; rfl))
theorem g_ifb_ne (hX : CX X l0 D0 own nm cc nL rt rf rl mc ms) {x : Bool} {off : Int} {tgt : Nat} (d : decode cc pc = .ok (.ifCond .ne off, 3)) (ht : (pc : Int) + off = (tgt : Int)) (kt : x = true → G X Q ws ce sl tgt L st) (kf : x = false → G X Q ws ce sl (pc + 3) L st) : G X Q ws ce sl pc L (.int (bI x) :: st) :=
  g_if_ne hX d ht (fun h => kt (by cases x; exact absurd rfl h; rfl)) (fun h => kf (bI_0.mp h))
theorem g_callFi (hX : CX X l0 D0 own nm cc nL rt rf rl mc ms) (d : decode cc pc = .ok (.invokevirtual idx, 3)) (cw : CW own idx y b maxL ret n) (hC : Cf l0 D0 y b maxL ret rf' rl' (.ref a :: As) wc (some (.int r)) w1) (q0 ci : Nat) (is : List Nat) (hst : st = As.reverse ++ .ref a :: rest) (his : is.map (fun i => ws[i]?) = wc.map some) (hq : ws[q0]? = some (a, .inr (ci, fs))) (hci : vwCl[ci]? = some (y.cls, T, N)) (hnd : va_nd is = true) (hn : As.length = n) (hsame : w1.map Prod.fst = wc.map Prod.fst) (hroom : rf' + 1 ≤ rf ∧ 8 + (maxL + 11) + rl' ≤ rl) (hW : (rest.map fun v => v.category).sum ≤ 8) (hce : ce ≤ mc) (hsl : sl ≤ ms) (hp : patch ws is w1 = ws') (kk : G X Q ws' ce sl (pc + 3) L (.int r :: rest)) : G X Q ws ce sl pc L st :=
  g_callF hX d cw hC q0 ci is hst his hq hci hnd hn hsame hroom hW hce hsl hp kk
theorem g_callFv (hX : CX X l0 D0 own nm cc nL rt rf rl mc ms) (d : decode cc pc = .ok (.invokevirtual idx, 3)) (cw : CW own idx y b maxL ret n) (hC : Cf l0 D0 y b maxL ret rf' rl' (.ref a :: As) wc none w1) (q0 ci : Nat) (is : List Nat) (hst : st = As.reverse ++ .ref a :: rest) (his : is.map (fun i => ws[i]?) = wc.map some) (hq : ws[q0]? = some (a, .inr (ci, fs))) (hci : vwCl[ci]? = some (y.cls, T, N)) (hnd : va_nd is = true) (hn : As.length = n) (hsame : w1.map Prod.fst = wc.map Prod.fst) (hroom : rf' + 1 ≤ rf ∧ 8 + (maxL + 11) + rl' ≤ rl) (hW : (rest.map fun v => v.category).sum ≤ 8) (hce : ce ≤ mc) (hsl : sl ≤ ms) (hp : patch ws is w1 = ws') (kk : G X Q ws' ce sl (pc + 3) L rest) : G X Q ws ce sl pc L st :=
  g_callF hX d cw hC q0 ci is hst his hq hci hnd hn hsame hroom hW hce hsl hp kk
theorem g_callRi (hX : CX X l0 D0 own nm cc nL rt rf rl mc ms) (d : decode cc pc = .ok (.invokevirtual idx, 3)) (cw : CW own idx y b maxL ret n) (hC : Cf l0 D0 y b maxL ret rf' rl' (.ref a :: As) wc (some (.int r)) wc) (q0 ci : Nat) (is : List Nat) (hst : st = As.reverse ++ .ref a :: rest) (his : is.map (fun i => ws[i]?) = wc.map some) (hq : ws[q0]? = some (a, .inr (ci, fs))) (hci : vwCl[ci]? = some (y.cls, T, N)) (hnd : va_nd is = true) (hn : As.length = n) (hroom : rf' + 1 ≤ rf ∧ 8 + (maxL + 11) + rl' ≤ rl) (hW : (rest.map fun v => v.category).sum ≤ 8) (hce : ce ≤ mc) (hsl : sl ≤ ms) (kk : G X Q ws ce sl (pc + 3) L (.int r :: rest)) : G X Q ws ce sl pc L st :=
  g_callF hX d cw hC q0 ci is hst his hq hci hnd hn rfl hroom hW hce hsl (patch_self is ws wc his) kk
theorem g_callSFi (hX : CX X l0 D0 own nm cc nL rt rf rl mc ms) (d : decode cc pc = .ok (.invokestatic idx, 3)) (cw : CWS own idx y b maxL ret n) (hC : Cf l0 D0 y b maxL ret rf' rl' As wc (some (.int r)) w1) (is : List Nat) (hst : st = As.reverse ++ rest) (his : is.map (fun i => ws[i]?) = wc.map some) (hnd : va_nd is = true) (hn : As.length = n) (hsame : w1.map Prod.fst = wc.map Prod.fst) (hroom : rf' + 1 ≤ rf ∧ 8 + (maxL + 11) + rl' ≤ rl) (hW : (rest.map fun v => v.category).sum ≤ 8) (hce : ce ≤ mc) (hsl : sl ≤ ms) (hp : patch ws is w1 = ws') (kk : G X Q ws' ce sl (pc + 3) L (.int r :: rest)) : G X Q ws ce sl pc L st :=
  g_callSF hX d cw hC is hst his hnd hn hsame hroom hW hce hsl hp kk
theorem g_callSRi (hX : CX X l0 D0 own nm cc nL rt rf rl mc ms) (d : decode cc pc = .ok (.invokestatic idx, 3)) (cw : CWS own idx y b maxL ret n) (hC : Cf l0 D0 y b maxL ret rf' rl' As wc (some (.int r)) wc) (is : List Nat) (hst : st = As.reverse ++ rest) (his : is.map (fun i => ws[i]?) = wc.map some) (hnd : va_nd is = true) (hn : As.length = n) (hroom : rf' + 1 ≤ rf ∧ 8 + (maxL + 11) + rl' ≤ rl) (hW : (rest.map fun v => v.category).sum ≤ 8) (hce : ce ≤ mc) (hsl : sl ≤ ms) (kk : G X Q ws ce sl (pc + 3) L (.int r :: rest)) : G X Q ws ce sl pc L st :=
  g_callSF hX d cw hC is hst his hnd hn rfl hroom hW hce hsl (patch_self is ws wc his) kk
theorem g_callSRl (hX : CX X l0 D0 own nm cc nL rt rf rl mc ms) (d : decode cc pc = .ok (.invokestatic idx, 3)) (cw : CWS own idx y b maxL ret n) (hC : Cf l0 D0 y b maxL ret rf' rl' As wc (some (.long r64)) wc) (is : List Nat) (hst : st = As.reverse ++ rest) (his : is.map (fun i => ws[i]?) = wc.map some) (hnd : va_nd is = true) (hn : As.length = n) (hroom : rf' + 1 ≤ rf ∧ 8 + (maxL + 11) + rl' ≤ rl) (hW : (rest.map fun v => v.category).sum ≤ 8) (hce : ce ≤ mc) (hsl : sl ≤ ms) (kk : G X Q ws ce sl (pc + 3) L (.long r64 :: rest)) : G X Q ws ce sl pc L st :=
  g_callSF hX d cw hC is hst his hnd hn rfl hroom hW hce hsl (patch_self is ws wc his) kk
end GK
theorem bR {a b : Bool} (h : b = a) : some (Value.int (bI a)) = some (Value.int (bI b)) := by rw [h]
theorem iR {a b : Int32} (h : b = a) : some (Value.int a) = some (Value.int b) := by rw [h]
theorem lR {a b : Int64} (h : b = a) : some (Value.long a) = some (Value.long b) := by rw [h]
theorem ts_ff {x : Bool} (h : ¬ x = true) : x = false := by cases x; rfl; exact absurd rfl h
theorem if_bt {α : Sort _} {b : Bool} {x y : α} (h : b = true) : (if b = true then x else y) = x := if_pos h
theorem if_bf {α : Sort _} {b : Bool} {x y : α} (h : b = false) : (if b = true then x else y) = y := if_neg (by rw [h]; decide)
section GN
variable {X : CT} {l0 : Launch} {D0 : va_G} {own nm : String} {cc : ByteArray} {nL : Nat} {rt : Option FieldType} {rf rl mc ms : Nat} {Q : State → Prop} {ws : va_W} {ce sl pc : Nat} {L : List (Option Value)} {st : List Value}
theorem nI_z {a : Nat} (h : a < 2147483648) : nI a = 0 ↔ a = 0 := nI_eq (b := 0) h (by omega)
theorem g_ifN_eq (hX : CX X l0 D0 own nm cc nL rt rf rl mc ms) {a : Nat} {off : Int} {tgt : Nat} (d : decode cc pc = .ok (.ifCond .eq off, 3)) (ht : (pc : Int) + off = (tgt : Int)) (ha : a < 2147483648) (kt : a = 0 → G X Q ws ce sl tgt L st) (kf : ¬ a = 0 → G X Q ws ce sl (pc + 3) L st) : G X Q ws ce sl pc L (.int (nI a) :: st) :=
  g_if_eq hX d ht (fun h => kt ((nI_z ha).mp h)) (fun h => kf (fun q => h ((nI_z ha).mpr q)))
theorem g_ifN_ne (hX : CX X l0 D0 own nm cc nL rt rf rl mc ms) {a : Nat} {off : Int} {tgt : Nat} (d : decode cc pc = .ok (.ifCond .ne off, 3)) (ht : (pc : Int) + off = (tgt : Int)) (ha : a < 2147483648) (kt : ¬ a = 0 → G X Q ws ce sl tgt L st) (kf : a = 0 → G X Q ws ce sl (pc + 3) L st) : G X Q ws ce sl pc L (.int (nI a) :: st) :=
  g_if_ne hX d ht (fun h => kt (fun q => h ((nI_z ha).mpr q))) (fun h => kf ((nI_z ha).mp h))
theorem g_ifN_le (hX : CX X l0 D0 own nm cc nL rt rf rl mc ms) {a : Nat} {off : Int} {tgt : Nat} (d : decode cc pc = .ok (.ifCond .le off, 3)) (ht : (pc : Int) + off = (tgt : Int)) (ha : a < 2147483648) (kt : a = 0 → G X Q ws ce sl tgt L st) (kf : ¬ a = 0 → G X Q ws ce sl (pc + 3) L st) : G X Q ws ce sl pc L (.int (nI a) :: st) :=
  g_if_le hX d ht (fun h => kt (by have := (nI_leI (b := 0) ha (by omega)).mp h; omega)) (fun h => kf (fun q => h ((nI_leI (b := 0) ha (by omega)).mpr (by omega))))
theorem g_ifN_gt (hX : CX X l0 D0 own nm cc nL rt rf rl mc ms) {a : Nat} {off : Int} {tgt : Nat} (d : decode cc pc = .ok (.ifCond .gt off, 3)) (ht : (pc : Int) + off = (tgt : Int)) (ha : a < 2147483648) (kt : 0 < a → G X Q ws ce sl tgt L st) (kf : ¬ 0 < a → G X Q ws ce sl (pc + 3) L st) : G X Q ws ce sl pc L (.int (nI a) :: st) :=
  g_if_gt hX d ht (fun h => kt ((nI_ltI (a := 0) (by omega) ha).mp h)) (fun h => kf (fun q => h ((nI_ltI (a := 0) (by omega) ha).mpr q)))
end GN
section GN2
variable {X : CT} {l0 : Launch} {D0 : va_G} {own nm : String} {cc : ByteArray} {nL : Nat} {rt : Option FieldType} {rf rl mc ms : Nat} {Q : State → Prop} {ws : va_W} {ce sl pc : Nat} {L : List (Option Value)} {st : List Value}
theorem g_ifN_lt (hX : CX X l0 D0 own nm cc nL rt rf rl mc ms) {a : Nat} {off : Int} {tgt : Nat} (d : decode cc pc = .ok (.ifCond .lt off, 3)) (ht : (pc : Int) + off = (tgt : Int)) (ha : a < 2147483648) (kf : G X Q ws ce sl (pc + 3) L st) : G X Q ws ce sl pc L (.int (nI a) :: st) :=
  g_if_lt hX d ht (fun h => absurd h (nI_pos ha)) (fun _ => kf)
theorem g_ifN_ge (hX : CX X l0 D0 own nm cc nL rt rf rl mc ms) {a : Nat} {off : Int} {tgt : Nat} (d : decode cc pc = .ok (.ifCond .ge off, 3)) (ht : (pc : Int) + off = (tgt : Int)) (ha : a < 2147483648) (kt : G X Q ws ce sl tgt L st) : G X Q ws ce sl pc L (.int (nI a) :: st) :=
  g_if_ge hX d ht (fun _ => kt) (fun h => absurd (nI_pos' ha) h)
end GN2
