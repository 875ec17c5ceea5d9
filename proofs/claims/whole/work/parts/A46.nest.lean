section GI
variable {X : CT} {l0 : Launch} {D0 : va_G} {own nm : String} {cc : ByteArray} {nL : Nat} {rt : Option FieldType} {rf rl mc ms : Nat} {Q : State → Prop} {ws : va_W} {ce sl pc : Nat} {L : List (Option Value)} {st : List Value}
variable {S : Type} {idx : Nat} {y : MethodName} {b : ByteArray} {maxL : Nat} {n rf' rl' mc' ms' : Nat} {As rest : List Value} {a : Nat} {wc : va_W} {post : Option Value → S → Prop} {w1 nw : S → va_W}
/-- a constructor called: what it makes comes last -/
theorem g_callIN (hX : CX X l0 D0 own nm cc nL rt rf rl mc ms) (d : decode cc pc = .ok (.invokespecial idx, 3)) (cw : (own, idx, y) ∈ NMl ∧ Cond.instanceMethod y ∈ TB ∧ Cond.code y b maxL none ∈ TB) (hini : Cond.initialized y.cls ∈ TB) (hy1 : y.name = "<init>") (hyd : y.cls ≠ "java/lang/invoke/MethodHandle" ∧ y.cls ≠ "java/lang/invoke/VarHandle" ∧ (parseMethodDescriptor y.desc).map (fun d => d.parameters.length) = some n)
    (hC : Ct l0 D0 y b maxL none rf' rl' mc' ms' (.ref a :: As) wc post (fun u => w1 u ++ nw u)) (is : List Nat) (hst : st = As.reverse ++ .ref a :: rest) (his : is.map (fun i => ws[i]?) = wc.map some) (hnd : va_nd is = true) (hn : As.length = n) (hsame : ∀ u, (w1 u).map Prod.fst = wc.map Prod.fst)
    (hroom : rf' + 1 ≤ rf ∧ 8 + (maxL + 11) + rl' ≤ rl) (hW : (rest.map fun v => v.category).sum ≤ 8) (hcs : ce + mc' ≤ mc ∧ sl + ms' ≤ ms)
    (kk : ∀ (v : Option Value) (u : S), post v u → G X Q (patch ws is (w1 u) ++ nw u) (ce + mc') (sl + ms') (pc + 3) L (v.toList ++ rest)) : G X Q ws ce sl pc L st := by
  obtain ⟨p, l, e, R, s, m, args, below, meth, c, D, A⟩ := X
  obtain ⟨hx, hb, hml, hown, hts, hK, hA, -, -, -, hRO, hf1, hl1, hc1, hs1, hl0, hD0⟩ := hX
  subst hl0; subst hD0
  intro H locs ls hP hD hS h
  have hPc : va_P D vwCl wc H := fun k x hx => by
    obtain ⟨i, h1, h2⟩ := map_at his hx
    exact hP i x h2
  have hDc : va_D (fun _ => True) wc := (hD.sub is hnd his).weaken (fun _ _ _ _ => trivial)
  have hFc := va_free (wc := wc) hD hS hA is his
  have cwf : va_CN R s args own idx y "SightSpacing" b maxL none (Cond.code y b maxL none :: TB) { frames := rf', cells := mc', slots := ms', locals := rl' } mc' ms' n ∧ y.name = "<init>" ∧ (Cond.instanceMethod y).before args s = true := ⟨va_cnB n hts (TB_gi (goodCode cw.2.2)) rfl rfl rfl (hRO.2.1 _ cw.1) (hts _ hini) hyd ⟨Nat.le_trans hroom.1 hf1, Nat.le_trans hroom.2 hl1⟩, hy1, hts _ cw.2.1⟩
  have hrun := va_runIN (rest := rest) (locs := locs) (cells := ce) (slots := sl) (e := e) (below := below) (meth := meth) (g := F0 m pc ls st) (H := H) ⟨hx, hb, rfl, hown, hts⟩ (hC H.size) cwf ⟨ct_blind, fun U hU hW => ⟨rfl, by rw [hU], by rw [hU]; exact hPc, va_K.moved hW.alike hK, hDc, by rw [hU]; exact ((hRO.kept hS.2.1).narrow hFc).warm hW⟩⟩ rfl hn h.1 hst (lv_room hW) d ⟨Nat.le_trans hcs.1 hc1, Nat.le_trans hcs.2 hs1⟩
  refine run_G hrun hA is his hP hD hS (fun v u H1 locs1 hp hP1 hD1 hk1 hS1 => ?_)
  have hlo := new_lo hD1 (hsame u)
  refine kk v u hp H1 locs1 ls ((patch_P hP hD is his hnd (hsame u) hk1 hP1.appL).app2 hP1.appR) ((hD.ofFst (patch_fst is ws wc (w1 u) his (hsame u) hnd)).app ⟨fun i j p q hi hj hpq => ?_, fun k q hk => hFc _ (Or.inr (hlo k q hk))⟩ (fun i j p q hi hj hpq => ?_)) hS1 h
  · have := hD1.1 ((w1 u).length + i) ((w1 u).length + j) p q (by rw [List.getElem?_append_right (by omega), show (w1 u).length + i - (w1 u).length = i by omega]; exact hi) (by rw [List.getElem?_append_right (by omega), show (w1 u).length + j - (w1 u).length = j by omega]; exact hj) hpq
    omega
  · have h2 := hlo j q hj
    have e1 : (ws.map Prod.fst)[i]? = some p.1 := by rw [← patch_fst is ws wc (w1 u) his (hsame u) hnd, List.getElem?_map, hi]; rfl
    rw [List.getElem?_map] at e1
    cases hw : ws[i]? with
    | none => rw [hw] at e1; cases e1
    | some z =>
      rw [hw] at e1
      have e1 : z.1 = p.1 := Option.some.inj e1
      have := (hP i z hw).lt
      omega
end GI
section GJ
variable {X : CT} {l0 : Launch} {D0 : va_G} {own nm : String} {cc : ByteArray} {nL : Nat} {rt : Option FieldType} {rf rl mc ms : Nat} {Q : State → Prop} {ws : va_W} {ce sl pc : Nat} {L : List (Option Value)} {st : List Value}
variable {S : Type} {idx : Nat} {y : MethodName} {b : ByteArray} {maxL : Nat} {n rf' rl' mc' ms' : Nat} {As rest : List Value} {a : Nat} {wc : va_W} {post : Option Value → S → Prop} {wf : S → va_W}
theorem g_callJN (w1 nw : S → va_W) (hwf : ∀ u, wf u = w1 u ++ nw u) (hX : CX X l0 D0 own nm cc nL rt rf rl mc ms) (d : decode cc pc = .ok (.invokespecial idx, 3)) (cw : (own, idx, y) ∈ NMl ∧ Cond.instanceMethod y ∈ TB ∧ Cond.code y b maxL none ∈ TB) (hini : Cond.initialized y.cls ∈ TB) (hy1 : y.name = "<init>") (hyd : y.cls ≠ "java/lang/invoke/MethodHandle" ∧ y.cls ≠ "java/lang/invoke/VarHandle" ∧ (parseMethodDescriptor y.desc).map (fun d => d.parameters.length) = some n)
    (hC : Ct l0 D0 y b maxL none rf' rl' mc' ms' (.ref a :: As) wc post wf) (is : List Nat) (hst : st = As.reverse ++ .ref a :: rest) (his : is.map (fun i => ws[i]?) = wc.map some) (hnd : va_nd is = true) (hn : As.length = n) (hsame : ∀ u, (w1 u).map Prod.fst = wc.map Prod.fst)
    (hroom : rf' + 1 ≤ rf ∧ 8 + (maxL + 11) + rl' ≤ rl) (hW : (rest.map fun v => v.category).sum ≤ 8) (hcs : ce + mc' ≤ mc ∧ sl + ms' ≤ ms)
    (kk : ∀ (v : Option Value) (u : S), post v u → G X Q (patch ws is (w1 u) ++ nw u) (ce + mc') (sl + ms') (pc + 3) L (v.toList ++ rest)) : G X Q ws ce sl pc L st := by
  obtain rfl : wf = fun u => w1 u ++ nw u := funext hwf
  exact g_callIN hX d cw hini hy1 hyd hC is hst his hnd hn hsame hroom hW hcs kk
end GJ
theorem cn_X4_11 : (RX4, 11, yX1_init) ∈ NMl ∧ Cond.instanceMethod yX1_init ∈ TB ∧ Cond.code yX1_init cX1_init 1 none ∈ TB := ⟨by decide, TB_in (i := 145) (by decide +kernel) (by decide +kernel), TB_in (i := 146) (by decide +kernel) (by decide +kernel)⟩
theorem cn_X6_27 : (RX6, 27, yX3_init) ∈ NMl ∧ Cond.instanceMethod yX3_init ∈ TB ∧ Cond.code yX3_init cX3_init 1 none ∈ TB := ⟨by decide, TB_in (i := 210) (by decide +kernel) (by decide +kernel), TB_in (i := 211) (by decide +kernel) (by decide +kernel)⟩
theorem cn_X6_41 : (RX6, 41, yX0_init) ∈ NMl ∧ Cond.instanceMethod yX0_init ∈ TB ∧ Cond.code yX0_init cX0_init 1 none ∈ TB := ⟨by decide, TB_in (i := 266) (by decide +kernel) (by decide +kernel), TB_in (i := 267) (by decide +kernel) (by decide +kernel)⟩
