/-! a private method of the superclass, called on a receiver of the subclass -/
theorem sel_up {args : Array Value} {s : State} {C : String} {y x' y' : MethodName} (h0 : (Cond.selects C x' y').before args s = true) (hc : y'.cls = y.cls) (hi : (Cond.instanceMethod y).before args s = true) (hp : (Cond.privateMethod y).before args s = true) (hs : (Cond.sameMethod y.cls y.cls y.name y.desc).before args s = true) (hn : y.cls ≠ "java/lang/invoke/MethodHandle" ∧ y.cls ≠ "java/lang/invoke/VarHandle") : (Cond.selects C y y).before args s = true := by
  obtain ⟨c, r', m', e1, -, e3, -, mk, e5, e6⟩ := Cond.selects_spec h0
  obtain ⟨m, meth, f1, f2, -, -⟩ := Cond.instanceMethod_spec hi
  have hpr := Cond.privateMethod_at hp m meth f1 f2
  have hf : s.vm.findClass y.cls = some m'.cls := by
    have := findClass_of_methodNamed e3
    rw [← hc]; exact this
  have h1 := selects_self_of_private hf e5 e6 (Cond.privateMethod_at hp) hi hn
  obtain ⟨c1, r, m1, g1, g2, g3, g4, mk1, g5, g6⟩ := Cond.selects_spec h1
  obtain ⟨q1, -⟩ := Cond.sameMethod_spec g1 g2 hs
  have er : r = m := by
    have q1 : s.methodNamed? y = some r := q1
    rw [f1] at q1; exact (Option.some.inj q1).symm
  subst er
  have em : m1 = r := by rw [f1] at g3; exact (Option.some.inj g3).symm
  subst em
  have hsel : selectMethod { } s.vm c m1 = Selection.method m1 := by
    unfold selectMethod
    rw [f2]
    exact if_pos hpr
  simp only [Cond.before, Cond.holds, Cond.value]
  simp [e1, g2, f1, hsel, g5, g6]
section GW
variable {X : CT} {l0 : Launch} {D0 : va_G} {own nm : String} {cc : ByteArray} {nL : Nat} {rt : Option FieldType} {rf rl mc ms : Nat} {Q : State → Prop} {ws : va_W} {ce sl pc : Nat} {L : List (Option Value)} {st : List Value}
variable {S : Type} {idx : Nat} {y x' y' : MethodName} {b : ByteArray} {maxL : Nat} {ret : Option FieldType} {n rf' rl' mc' ms' : Nat} {As rest : List Value} {a : Nat} {wc : va_W} {post : Option Value → S → Prop} {wf : S → va_W}
theorem g_callW {C : String} (hX : CX X l0 D0 own nm cc nL rt rf rl mc ms) (d : decode cc pc = .ok (.invokevirtual idx, 3)) (cw : Cond.methodLink own idx y ∈ TB ∧ Cond.sameMethod y.cls y.cls y.name y.desc ∈ TB ∧ Cond.selects C x' y' ∈ TB ∧ Cond.instanceMethod y ∈ TB ∧ y = yJ5_ensureCapacityInternal_d00df ∧ Cond.initialized y.cls ∈ TB ∧ Cond.code y b maxL ret ∈ TB) (hyx : y'.cls = y.cls) (hyd : y.cls ≠ "java/lang/invoke/MethodHandle" ∧ y.cls ≠ "java/lang/invoke/VarHandle" ∧ (parseMethodDescriptor y.desc).map (fun d => d.parameters.length) = some n)
    (hC : Ct l0 D0 y b maxL ret rf' rl' mc' ms' (.ref a :: As) wc post wf) (q0 ci : Nat) {fs : List Value} {T : u_T} {N : Nat} (is : List Nat) (hst : st = As.reverse ++ .ref a :: rest) (his : is.map (fun i => ws[i]?) = wc.map some) (hq : ws[q0]? = some (a, .inr (ci, fs))) (hci : vwCl[ci]? = some (C, T, N)) (hnd : va_nd is = true) (hn : As.length = n) (hsame : ∀ u, (wf u).map Prod.fst = wc.map Prod.fst)
    (hroom : rf' + 1 ≤ rf ∧ 8 + (maxL + 11) + rl' ≤ rl) (hW : (rest.map fun v => v.category).sum ≤ 8) (hcs : ce + mc' ≤ mc ∧ sl + ms' ≤ ms)
    (kk : ∀ (v : Option Value) (u : S), post v u → G X Q (patch ws is (wf u)) (ce + mc') (sl + ms') (pc + 3) L (v.toList ++ rest)) : G X Q ws ce sl pc L st := by
  obtain ⟨w1, w2, w3, w4, w5, w6, w7⟩ := cw
  obtain ⟨p, l, e, R, s, m, args, below, meth, c, D, A⟩ := X
  obtain ⟨hx, hb, hml, hown, hts, hK, hA, -, -, -, hRO, hf1, hl1, hc1, hs1, hl0, hD0⟩ := hX
  subst hl0; subst hD0
  intro H locs ls hP hD hS h
  have hPc : va_P D vwCl wc H := fun k x hx => by
    obtain ⟨i, h1, h2⟩ := map_at his hx
    exact hP i x h2
  have hDc : va_D (fun _ => True) wc := (hD.sub is hnd his).weaken (fun _ _ _ _ => trivial)
  have hFc := va_free (wc := wc) hD hS hA is his
  have hG : GoodIn TB (Cond.code y b maxL ret :: TB) := TB_gi (goodCode w7)
  have hpv : (Cond.privateMethod y).before args s = true := by rw [w5]; exact hRO.2.2.1.2.use rfl
  have cwf : va_CU R s args own C y.cls idx y y b maxL ret (Cond.code y b maxL ret :: TB) { frames := rf', cells := mc', slots := ms', locals := rl' } mc' ms' n := by
    refine ⟨⟨rfl, rfl, Nat.le_trans hroom.1 hf1, Nat.le_trans hroom.2 hl1, pay_in hts hG, List.mem_cons_self⟩, hts _ w7, hts _ w6, ⟨hyd.1, hyd.2.1⟩, fun sig h => ?_, hts _ w1, hts _ w2, va_Decl.of (hts _ w4) (hts _ w7), sel_up (hts _ w3) hyx (hts _ w4) hpv (hts _ w2) ⟨hyd.1, hyd.2.1⟩, hts _ w4⟩
    have h2 := hyd.2.2
    rw [h] at h2
    exact (Option.some.inj h2).symm
  have hrun := va_runU (rest := rest) (locs := locs) (cells := ce) (slots := sl) (e := e) (below := below) (meth := meth) (g := F0 m pc ls st) (H := H) ⟨hx, hb, rfl, hown, hts⟩ (hC H.size) cwf ⟨ct_blind, va_recv hK hP hci hq, fun U hU hW => ⟨rfl, by rw [hU], by rw [hU]; exact hPc, va_K.moved hW.alike hK, hDc, by rw [hU]; exact ((hRO.kept hS.2.1).narrow hFc).warm hW⟩⟩ rfl hn h.1 hst (lv_room hW) d ⟨Nat.le_trans hcs.1 hc1, Nat.le_trans hcs.2 hs1⟩
  refine run_G hrun hA is his hP hD hS (fun v u H1 locs1 hp hP1 hD1 hk1 hS1 => ?_)
  exact kk v u hp H1 locs1 ls (patch_P hP hD is his hnd (hsame u) hk1 hP1) (hD.ofFst (patch_fst is ws wc (wf u) his (hsame u) hnd)) hS1 h
end GW
/-- cells that nobody needs any more -/
theorem g_weak {X : CT} {Q : State → Prop} {ws : va_W} {ce sl pc : Nat} {L : List (Option Value)} {st : List Value} (ex : va_W) (kk : G X Q ws ce sl pc L st) : G X Q (ws ++ ex) ce sl pc L st := by
  obtain ⟨p, l, e, R, s, m, args, below, meth, c, D, A⟩ := X
  intro H locs ls hP hD hS h
  refine kk H locs ls hP.appL ⟨fun i j p q hi hj => ?_, fun k q hk => ?_⟩ hS h
  · exact hD.1 i j p q (by rw [List.getElem?_append_left (List.getElem?_eq_some_iff.mp hi).1]; exact hi) (by rw [List.getElem?_append_left (List.getElem?_eq_some_iff.mp hj).1]; exact hj)
  · exact hD.2 k q (by rw [List.getElem?_append_left (List.getElem?_eq_some_iff.mp hk).1]; exact hk)
theorem cat_J4 {X : CT} {l0 : Launch} {D0 : va_G} {own nm : String} {cc : ByteArray} {nL : Nat} {rt : Option FieldType} {rf rl mc ms : Nat} (hX : CX X l0 D0 own nm cc nL rt rf rl mc ms) : match X with | (_, _, _, _, s, _, _, _, _, _, _, _) => ∃ cC, ClassAt s RJ4 cC := by
  obtain ⟨p, l, e, R, s, m, args, below, meth, c, D, A⟩ := X
  obtain ⟨hx, hb, hml, hown, hts, hK, -⟩ := hX
  exact ⟨_, (hK.1 0 (RJ4, TJ4, 4) rfl).2⟩
theorem cu_J5_83 : Cond.methodLink RJ5 83 yJ5_isLatin1_aae02 ∈ TB ∧ Cond.sameMethod RJ5 RJ5 "isLatin1" "()Z" ∈ TB ∧ Cond.selects RJ4 yJ5_isLatin1_aae02 yJ5_isLatin1_aae02 ∈ TB ∧ Cond.instanceMethod yJ5_isLatin1_aae02 ∈ TB ∧ Cond.initialized RJ5 ∈ TB ∧ Cond.code yJ5_isLatin1_aae02 cJ5_isLatin1_aae02 1 (some .boolean) ∈ TB := ⟨TB_in (i := 745) (by decide +kernel) (by decide +kernel), TB_in (i := 747) (by decide +kernel) (by decide +kernel), TB_in (i := 748) (by decide +kernel) (by decide +kernel), TB_in (i := 746) (by decide +kernel) (by decide +kernel), tw_ini_J5, TB_in (i := 749) (by decide +kernel) (by decide +kernel)⟩
theorem cv_J5_100 : Cond.methodLink RJ5 100 yJ5_ensureCapacityInternal_d00df ∈ TB ∧ Cond.sameMethod RJ5 RJ5 "ensureCapacityInternal" "(I)V" ∈ TB ∧ Cond.selects RJ4 yJ5_isLatin1_aae02 yJ5_isLatin1_aae02 ∈ TB ∧ Cond.instanceMethod yJ5_ensureCapacityInternal_d00df ∈ TB ∧ yJ5_ensureCapacityInternal_d00df = yJ5_ensureCapacityInternal_d00df ∧ Cond.initialized RJ5 ∈ TB ∧ Cond.code yJ5_ensureCapacityInternal_d00df cJ5_ensureCapacityInternal_d00df 3 none ∈ TB := ⟨TB_in (i := 716) (by decide +kernel) (by decide +kernel), TB_in (i := 1333) (by decide +kernel) (by decide +kernel), TB_in (i := 748) (by decide +kernel) (by decide +kernel), TB_in (i := 718) (by decide +kernel) (by decide +kernel), rfl, tw_ini_J5, TB_in (i := 719) (by decide +kernel) (by decide +kernel)⟩
theorem cs_J4_50 : Cond.methodLink RJ4 50 yJ5_append_3fe6f ∈ TB ∧ Cond.sameMethod RJ5 RJ5 "append" "(C)Ljava/lang/AbstractStringBuilder;" ∈ TB ∧ Cond.superclass RJ4 RJ5 ∈ TB ∧ Cond.instanceMethod yJ5_append_3fe6f ∈ TB ∧ Cond.initialized RJ5 ∈ TB ∧ Cond.code yJ5_append_3fe6f cJ5_append_3fe6f 2 (some (.object "java/lang/AbstractStringBuilder")) ∈ TB := ⟨TB_in (i := 713) (by decide +kernel) (by decide +kernel), TB_in (i := 1332) (by decide +kernel) (by decide +kernel), TB_in (i := 700) (by decide +kernel) (by decide +kernel), TB_in (i := 714) (by decide +kernel) (by decide +kernel), tw_ini_J5, TB_in (i := 715) (by decide +kernel) (by decide +kernel)⟩
theorem cs_J4_53 : Cond.methodLink RJ4 53 yJ5_append_c97b9 ∈ TB ∧ Cond.sameMethod RJ5 RJ5 "append" "(I)Ljava/lang/AbstractStringBuilder;" ∈ TB ∧ Cond.superclass RJ4 RJ5 ∈ TB ∧ Cond.instanceMethod yJ5_append_c97b9 ∈ TB ∧ Cond.initialized RJ5 ∈ TB ∧ Cond.code yJ5_append_c97b9 cJ5_append_c97b9 4 (some (.object "java/lang/AbstractStringBuilder")) ∈ TB := ⟨TB_in (i := 782) (by decide +kernel) (by decide +kernel), TB_in (i := 1336) (by decide +kernel) (by decide +kernel), TB_in (i := 700) (by decide +kernel) (by decide +kernel), TB_in (i := 783) (by decide +kernel) (by decide +kernel), tw_ini_J5, TB_in (i := 784) (by decide +kernel) (by decide +kernel)⟩
theorem cs_J4_343 : Cond.methodLink RJ4 343 yJ5_length_8abf5 ∈ TB ∧ Cond.sameMethod RJ5 RJ5 "length" "()I" ∈ TB ∧ Cond.superclass RJ4 RJ5 ∈ TB ∧ Cond.instanceMethod yJ5_length_8abf5 ∈ TB ∧ Cond.initialized RJ5 ∈ TB ∧ Cond.code yJ5_length_8abf5 cJ5_length_8abf5 1 (some .int) ∈ TB := ⟨TB_in (i := 816) (by decide +kernel) (by decide +kernel), TB_in (i := 1337) (by decide +kernel) (by decide +kernel), TB_in (i := 700) (by decide +kernel) (by decide +kernel), TB_in (i := 817) (by decide +kernel) (by decide +kernel), tw_ini_J5, TB_in (i := 818) (by decide +kernel) (by decide +kernel)⟩
theorem cs_J4_329 : Cond.methodLink RJ4 329 yJ5_charAt_5068e ∈ TB ∧ Cond.sameMethod RJ5 RJ5 "charAt" "(I)C" ∈ TB ∧ Cond.superclass RJ4 RJ5 ∈ TB ∧ Cond.instanceMethod yJ5_charAt_5068e ∈ TB ∧ Cond.initialized RJ5 ∈ TB ∧ Cond.code yJ5_charAt_5068e cJ5_charAt_5068e 5 (some .char) ∈ TB := ⟨TB_in (i := 823) (by decide +kernel) (by decide +kernel), TB_in (i := 1338) (by decide +kernel) (by decide +kernel), TB_in (i := 700) (by decide +kernel) (by decide +kernel), TB_in (i := 824) (by decide +kernel) (by decide +kernel), tw_ini_J5, TB_in (i := 825) (by decide +kernel) (by decide +kernel)⟩
