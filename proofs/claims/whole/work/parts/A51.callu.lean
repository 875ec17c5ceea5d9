/-! an inherited method called -/
section GV
variable {X : CT} {l0 : Launch} {D0 : va_G} {own nm : String} {cc : ByteArray} {nL : Nat} {rt : Option FieldType} {rf rl mc ms : Nat} {Q : State → Prop} {ws : va_W} {ce sl pc : Nat} {L : List (Option Value)} {st : List Value}
variable {S : Type} {idx : Nat} {x y : MethodName} {b : ByteArray} {maxL : Nat} {ret : Option FieldType} {n rf' rl' mc' ms' : Nat} {As rest : List Value} {a : Nat} {wc : va_W} {post : Option Value → S → Prop} {wf : S → va_W}
theorem g_callU {C owner : String} (hX : CX X l0 D0 own nm cc nL rt rf rl mc ms) (d : decode cc pc = .ok (.invokevirtual idx, 3)) (cw : Cond.methodLink own idx x ∈ TB ∧ Cond.sameMethod x.cls owner x.name x.desc ∈ TB ∧ Cond.selects C x y ∈ TB ∧ Cond.instanceMethod y ∈ TB ∧ Cond.initialized y.cls ∈ TB ∧ Cond.code y b maxL ret ∈ TB) (hyx : y = ⟨owner, x.name, x.desc⟩) (hyd : owner ≠ "java/lang/invoke/MethodHandle" ∧ owner ≠ "java/lang/invoke/VarHandle" ∧ (parseMethodDescriptor x.desc).map (fun d => d.parameters.length) = some n)
    (hC : Ct l0 D0 y b maxL ret rf' rl' mc' ms' (.ref a :: As) wc post wf) (q0 ci : Nat) {fs : List Value} {T : u_T} {N : Nat} (is : List Nat) (hst : st = As.reverse ++ .ref a :: rest) (his : is.map (fun i => ws[i]?) = wc.map some) (hq : ws[q0]? = some (a, .inr (ci, fs))) (hci : vwCl[ci]? = some (C, T, N)) (hnd : va_nd is = true) (hn : As.length = n) (hsame : ∀ u, (wf u).map Prod.fst = wc.map Prod.fst)
    (hroom : rf' + 1 ≤ rf ∧ 8 + (maxL + 11) + rl' ≤ rl) (hW : (rest.map fun v => v.category).sum ≤ 8) (hcs : ce + mc' ≤ mc ∧ sl + ms' ≤ ms)
    (kk : ∀ (v : Option Value) (u : S), post v u → G X Q (patch ws is (wf u)) (ce + mc') (sl + ms') (pc + 3) L (v.toList ++ rest)) : G X Q ws ce sl pc L st := by
  obtain ⟨w1, w2, w3, w4, w5, w6⟩ := cw
  obtain ⟨p, l, e, R, s, m, args, below, meth, c, D, A⟩ := X
  obtain ⟨hx, hb, hml, hown, hts, hK, hA, -, -, -, hRO, hf1, hl1, hc1, hs1, hl0, hD0⟩ := hX
  subst hl0; subst hD0
  intro H locs ls hP hD hS h
  have hPc : va_P D vwCl wc H := fun k x hx => by
    obtain ⟨i, h1, h2⟩ := map_at his hx
    exact hP i x h2
  have hDc : va_D (fun _ => True) wc := (hD.sub is hnd his).weaken (fun _ _ _ _ => trivial)
  have hFc := va_free (wc := wc) hD hS hA is his
  have cwf := va_cwU (R := R) (s := s) (args := args) (own := own) (C := C) (owner := owner) (index := idx) (x := x) (y := y) (bytes := b) (maxL := maxL) (ret := ret) (mc := mc') (ms := ms') (rm := { frames := rf', cells := mc', slots := ms', locals := rl' }) (ws := Cond.code y b maxL ret :: TB) n hts (TB_gi (ws := va_wsU own idx C owner x y (Cond.code y b maxL ret :: TB)) (fun w hw => by
    rcases List.mem_append.mp hw with h | h
    · simp only [List.mem_cons, List.not_mem_nil, or_false] at h
      rcases h with rfl | rfl | rfl | rfl | rfl
      · exact w1
      · exact w2
      · exact w3
      · exact w4
      · exact w5
    · exact goodCode w6 w h)) rfl rfl rfl hyx hyd ⟨Nat.le_trans hroom.1 hf1, Nat.le_trans hroom.2 hl1⟩
  have hrun := va_runU (rest := rest) (locs := locs) (cells := ce) (slots := sl) (e := e) (below := below) (meth := meth) (g := F0 m pc ls st) (H := H) ⟨hx, hb, rfl, hown, hts⟩ (hC H.size) cwf ⟨ct_blind, va_recv hK hP hci hq, fun U hU hW => ⟨rfl, by rw [hU], by rw [hU]; exact hPc, va_K.moved hW.alike hK, hDc, by rw [hU]; exact ((hRO.kept hS.2.1).narrow hFc).warm hW⟩⟩ rfl hn h.1 hst (lv_room hW) d ⟨Nat.le_trans hcs.1 hc1, Nat.le_trans hcs.2 hs1⟩
  refine run_G hrun hA is his hP hD hS (fun v u H1 locs1 hp hP1 hD1 hk1 hS1 => ?_)
  exact kk v u hp H1 locs1 ls (patch_P hP hD is his hnd (hsame u) hk1 hP1) (hD.ofFst (patch_fst is ws wc (wf u) his (hsame u) hnd)) hS1 h
end GV
