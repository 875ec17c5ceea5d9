/-! returns -/
section GT
variable {X : CT} {l0 : Launch} {D0 : va_G} {own nm : String} {cc : ByteArray} {nL : Nat} {rt : Option FieldType} {rf rl mc ms : Nat} {Q : State → Prop} {ws : va_W} {ce sl pc : Nat} {L : List (Option Value)} {st : List Value}
theorem g_zretU {S : Type} {post : Option Value → S → Prop} {wf : S → va_W} {ty : FieldType} (hX : CX X l0 D0 own nm cc nL (some ty) rf rl mc ms) {v : Int32} (d : decode cc pc = .ok (.ireturn, 1)) (hn : narrow ty (.int v) = .int v) (u : S) (hp : post (some (.int v)) u) (hw : ws = wf u) (hce : ce ≤ mc) (hsl : sl ≤ ms) : G X (QM X mc ms post wf) ws ce sl pc L [.int v] := by
  subst hw
  obtain ⟨p, l, e, R, s, m, args, below, meth, c, D, A⟩ := X
  obtain ⟨hx, hb, hml, hown, hts, hK, hA, hlk, hr, -, -, -, -, hc1, hs1, -, -⟩ := hX
  intro H locs ls hP hD hS h
  refine W.widen hce hsl ?_
  exact W.zret hx hb hr hn (fun t ht hW => ⟨⟨_, u, rfl, hp, by rw [ht]; exact hP, hD⟩, hS.F ht⟩) hS.2.2 d
theorem g_vretU {S : Type} {post : Option Value → S → Prop} {wf : S → va_W} (hX : CX X l0 D0 own nm cc nL none rf rl mc ms) (d : decode cc pc = .ok (.return_, 1)) (u : S) (hp : post none u) (hw : ws = wf u) (hce : ce ≤ mc) (hsl : sl ≤ ms) : G X (QM X mc ms post wf) ws ce sl pc L [] := by
  subst hw
  obtain ⟨p, l, e, R, s, m, args, below, meth, c, D, A⟩ := X
  obtain ⟨hx, hb, hml, hown, hts, hK, hA, hlk, hr, -, -, -, -, hc1, hs1, -, -⟩ := hX
  intro H locs ls hP hD hS h
  refine W.widen hce hsl ?_
  exact W.vret hx hb hr (fun t ht hW => ⟨⟨_, u, rfl, hp, by rw [ht]; exact hP, hD⟩, hS.F ht⟩) hS.2.2 d
theorem g_lretU {S : Type} {post : Option Value → S → Prop} {wf : S → va_W} (hX : CX X l0 D0 own nm cc nL (some .long) rf rl mc ms) {v : Int64} (d : decode cc pc = .ok (.lreturn, 1)) (u : S) (hp : post (some (.long v)) u) (hw : ws = wf u) (hce : ce ≤ mc) (hsl : sl ≤ ms) : G X (QM X mc ms post wf) ws ce sl pc L [.long v] := by
  subst hw
  obtain ⟨p, l, e, R, s, m, args, below, meth, c, D, A⟩ := X
  obtain ⟨hx, hb, hml, hown, hts, hK, hA, hlk, hr, -, -, -, -, hc1, hs1, -, -⟩ := hX
  intro H locs ls hP hD hS h
  refine W.widen hce hsl ?_
  exact W.lret hx hb hr (fun t ht hW => ⟨⟨_, u, rfl, hp, by rw [ht]; exact hP, hD⟩, hS.F ht⟩) hS.2.2 d
theorem g_aretU {S : Type} {post : Option Value → S → Prop} {wf : S → va_W} {ty : FieldType} (hX : CX X l0 D0 own nm cc nL (some ty) rf rl mc ms) {v : Nat} (d : decode cc pc = .ok (.areturn, 1)) (hty : (∃ n, ty = .object n) ∨ ∃ t, ty = .array t) (u : S) (hp : post (some (.ref v)) u) (hw : ws = wf u) (hce : ce ≤ mc) (hsl : sl ≤ ms) : G X (QM X mc ms post wf) ws ce sl pc L [.ref v] := by
  subst hw
  obtain ⟨p, l, e, R, s, m, args, below, meth, c, D, A⟩ := X
  obtain ⟨hx, hb, hml, hown, hts, hK, hA, hlk, hr, -, -, -, -, hc1, hs1, -, -⟩ := hX
  intro H locs ls hP hD hS h
  refine W.widen hce hsl ?_
  exact W.aret hx hb hr hty (Or.inr ⟨v, rfl⟩) (fun t ht hW => ⟨⟨_, u, rfl, hp, by rw [ht]; exact hP, hD⟩, hS.F ht⟩) hS.2.2 d
abbrev QF (X : CT) (res : Option Value) (w1 : va_W) : State → Prop := QM X 0 0 (fun v (_ : Unit) => v = res) (fun _ => w1)
theorem g_iret {w1 : va_W} {res : Option Value} (hX : CX X l0 D0 own nm cc nL (some .int) rf rl mc ms) {v : Int32} (d : decode cc pc = .ok (.ireturn, 1)) (hp : some (.int v) = res) (hw : ws = w1) (hm : mc = 0) (hs : ms = 0) : G X (QF X res w1) ws 0 0 pc L [.int v] := by
  subst hm; subst hs
  exact g_zretU hX d (vp_nar_int v) () hp hw (Nat.le_refl _) (Nat.le_refl _)
/-- a boolean answer -/
def bI (b : Bool) : Int32 := if b then 1 else 0
theorem bI_nar (b : Bool) : narrow .boolean (.int (bI b)) = .int (bI b) := by cases b <;> rfl
theorem g_zret {w1 : va_W} {res : Option Value} (b : Bool) (hX : CX X l0 D0 own nm cc nL (some .boolean) rf rl mc ms) {v : Int32} (d : decode cc pc = .ok (.ireturn, 1)) (hb : v = bI b) (hp : some (.int (bI b)) = res) (hw : ws = w1) (hm : mc = 0) (hs : ms = 0) : G X (QF X res w1) ws 0 0 pc L [.int v] := by
  subst hm; subst hs; subst hb
  exact g_zretU hX d (bI_nar b) () hp hw (Nat.le_refl _) (Nat.le_refl _)
theorem g_vret {w1 : va_W} {res : Option Value} (hX : CX X l0 D0 own nm cc nL none rf rl mc ms) (d : decode cc pc = .ok (.return_, 1)) (hp : none = res) (hw : ws = w1) (hm : mc = 0) (hs : ms = 0) : G X (QF X res w1) ws 0 0 pc L [] := by
  subst hm; subst hs
  exact g_vretU hX d () hp hw (Nat.le_refl _) (Nat.le_refl _)
theorem g_lret {w1 : va_W} {res : Option Value} (hX : CX X l0 D0 own nm cc nL (some .long) rf rl mc ms) {v : Int64} (d : decode cc pc = .ok (.lreturn, 1)) (hp : some (.long v) = res) (hw : ws = w1) (hm : mc = 0) (hs : ms = 0) : G X (QF X res w1) ws 0 0 pc L [.long v] := by
  subst hm; subst hs
  exact g_lretU hX d () hp hw (Nat.le_refl _) (Nat.le_refl _)
end GT
/-! patching a world behind a call -/
def patch : va_W → List Nat → va_W → va_W
  | ws, i :: is, e :: es => patch (ws.set i e) is es
  | ws, _, _ => ws
theorem patch_get : ∀ (is : List Nat) (ws es : va_W) (k : Nat) (q : Nat × va_E), va_nd is = true → is.length = es.length → (patch ws is es)[k]? = some q → (∃ j : Nat, is[j]? = some k ∧ es[j]? = some q) ∨ (k ∉ is ∧ ws[k]? = some q)
  | [], ws, es, k, q, _, _, h => by
    cases es <;> exact Or.inr ⟨by simp, h⟩
  | i :: is, ws, [], k, q, _, hl, h => by simp at hl
  | i :: is, ws, e :: es, k, q, hn, hl, h => by
    simp only [va_nd, Bool.and_eq_true, decide_eq_true_eq] at hn
    rcases patch_get is (ws.set i e) es k q hn.2 (by simpa using hl) h with ⟨j, h1, h2⟩ | ⟨h1, h2⟩
    · exact Or.inl ⟨j + 1, h1, h2⟩
    · by_cases hk : k = i
      · subst hk
        by_cases hlt : k < ws.length
        · rw [List.getElem?_set_self hlt] at h2
          exact Or.inl ⟨0, rfl, h2⟩
        · rw [List.getElem?_eq_none (by simp; omega)] at h2
          cases h2
      · rw [List.getElem?_set_ne (Ne.symm hk)] at h2
        exact Or.inr ⟨by simp only [List.mem_cons, not_or]; exact ⟨hk, h1⟩, h2⟩
theorem va_D.ofFst {A : Nat → Prop} {ws ws' : va_W} (h : va_D A ws) (he : ws'.map Prod.fst = ws.map Prod.fst) : va_D A ws' := by
  have key : ∀ (k : Nat) (q : Nat × va_E), ws'[k]? = some q → ∃ q0, ws[k]? = some q0 ∧ q0.1 = q.1 := by
    intro k q hk
    have h1 : (ws'.map Prod.fst)[k]? = some q.1 := by rw [List.getElem?_map, hk]; rfl
    rw [he, List.getElem?_map] at h1
    cases hq : ws[k]? with
    | none => rw [hq] at h1; cases h1
    | some q0 => rw [hq] at h1; exact ⟨q0, rfl, Option.some.inj h1⟩
  refine ⟨fun i j x y hi hj hxy => ?_, fun k q hk => ?_⟩
  · obtain ⟨x0, h1, h2⟩ := key i x hi
    obtain ⟨y0, h3, h4⟩ := key j y hj
    exact h.1 i j x0 y0 h1 h3 (h2.trans (hxy.trans h4.symm))
  · obtain ⟨q0, h1, h2⟩ := key k q hk
    rw [← h2]
    exact h.2 k q0 h1
theorem patch_fst : ∀ (is : List Nat) (ws wc es : va_W), is.map (fun i => ws[i]?) = wc.map some → es.map Prod.fst = wc.map Prod.fst → va_nd is = true → (patch ws is es).map Prod.fst = ws.map Prod.fst
  | [], ws, wc, es, _, _, _ => by cases es <;> rfl
  | i :: is, ws, [], es, h, _, _ => by simp at h
  | i :: is, ws, c :: wc, [], h, h2, _ => by simp at h2
  | i :: is, ws, c :: wc, e :: es, h, h2, hn => by
    simp only [List.map_cons, List.cons.injEq] at h h2
    simp only [va_nd, Bool.and_eq_true, decide_eq_true_eq] at hn
    have e1 : (ws.set i e).map Prod.fst = ws.map Prod.fst := by
      rw [List.map_set, h2.1]
      apply List.ext_getElem?
      intro k
      by_cases hk : k = i
      · subst hk
        have hl := (List.getElem?_eq_some_iff.mp h.1).1
        rw [List.getElem?_set_self (by simpa using hl), List.getElem?_map, h.1]
        rfl
      · rw [List.getElem?_set_ne (Ne.symm hk)]
    show (patch (ws.set i e) is es).map Prod.fst = _
    rw [patch_fst is (ws.set i e) wc es ?_ h2.2 hn.2, e1]
    rw [← h.2]
    apply List.map_congr_left
    intro j hj
    have hij : i ≠ j := fun q => by subst q; exact hn.1 hj
    rw [List.getElem?_set_ne hij]
theorem map_at {is : List Nat} {ws w : va_W} (hs : is.map (fun i => ws[i]?) = w.map some) {k : Nat} {q : Nat × va_E} (hq : w[k]? = some q) : ∃ i, is[k]? = some i ∧ ws[i]? = some q := by
  have h1 : (is.map (fun i => ws[i]?))[k]? = some (some q) := by rw [hs, List.getElem?_map, hq]; rfl
  rw [List.getElem?_map] at h1
  cases hi : is[k]? with
  | none => rw [hi] at h1; cases h1
  | some i => rw [hi] at h1; exact ⟨i, rfl, Option.some.inj h1⟩
theorem patch_P {A0 : Nat → Prop} {D : va_G} {ws wc es : va_W} {H H1 : Heap} (hP : va_P D vwCl ws H) (hD : va_D A0 ws) (is : List Nat) (hC : is.map (fun i => ws[i]?) = wc.map some) (hn : va_nd is = true) (he : es.map Prod.fst = wc.map Prod.fst)
    (hk : ∀ q : Nat, q < H.size → ¬ va_A wc H.size q → H1[q]? = H[q]?) (hP1 : va_P D vwCl es H1) : va_P D vwCl (patch ws is es) H1 := by
  intro k q hq
  have hlen : is.length = es.length := by
    have a := congrArg List.length hC
    have b := congrArg List.length he
    simp at a b
    omega
  rcases patch_get is ws es k q hn hlen hq with ⟨j, h1, h2⟩ | ⟨h1, h2⟩
  · exact hP1 j q h2
  · refine (hP k q h2).kept (hk q.1 (hP k q h2).lt fun h => ?_)
    rcases h with ⟨k2, e, h⟩ | h
    · obtain ⟨i, h3, h4⟩ := map_at hC h
      have := hD.1 k i q (q.1, e) h2 h4 rfl
      subst this
      exact h1 (List.mem_of_getElem? h3)
    · have := (hP k q h2).lt
      omega
/-! calls -/
def CW (own : String) (idx : Nat) (y : MethodName) (b : ByteArray) (maxL : Nat) (ret : Option FieldType) (n : Nat) : Prop :=
  Cond.methodLink own idx y ∈ TB ∧ Cond.instanceMethod y ∈ TB ∧ Cond.selects y.cls y y ∈ TB ∧ Cond.initialized y.cls ∈ TB ∧ Cond.code y b maxL ret ∈ TB ∧ y.cls ≠ "java/lang/invoke/MethodHandle" ∧ y.cls ≠ "java/lang/invoke/VarHandle" ∧ (parseMethodDescriptor y.desc).map (fun d => d.parameters.length) = some n
def CWS (own : String) (idx : Nat) (y : MethodName) (b : ByteArray) (maxL : Nat) (ret : Option FieldType) (n : Nat) : Prop :=
  Cond.methodLink own idx y ∈ TB ∧ Cond.static y ∈ TB ∧ Cond.initialized y.cls ∈ TB ∧ Cond.code y b maxL ret ∈ TB ∧ y.cls ≠ "java/lang/invoke/MethodHandle" ∧ y.cls ≠ "java/lang/invoke/VarHandle" ∧ (parseMethodDescriptor y.desc).map (fun d => d.parameters.length) = some n
theorem goodCode {y : MethodName} {b : ByteArray} {maxL : Nat} {ret : Option FieldType} (h : Cond.code y b maxL ret ∈ TB) : ∀ w ∈ Cond.code y b maxL ret :: TB, w ∈ TB := fun w hw => (List.mem_cons.mp hw).elim (fun e => by rw [e]; exact h) id
section GC
variable {X : CT} {l0 : Launch} {D0 : va_G} {own nm : String} {cc : ByteArray} {nL : Nat} {rt : Option FieldType} {rf rl mc ms : Nat} {Q : State → Prop} {ws : va_W} {ce sl pc : Nat} {L : List (Option Value)} {st : List Value}
variable {S : Type} {idx : Nat} {y : MethodName} {b : ByteArray} {maxL : Nat} {ret : Option FieldType} {n rf' rl' mc' ms' : Nat} {As rest : List Value} {a : Nat} {wc : va_W} {post : Option Value → S → Prop} {wf : S → va_W}
theorem ct_blind {D : va_G} {av : List Value} {wc : va_W} {sz : Nat} : FrameBlind (va_Pc av (fun U => U.heap.size = sz ∧ va_P D vwCl wc U.heap ∧ va_K D vwCl (tysD D) U ∧ va_D (fun _ => True) wc ∧ RO D (va_A wc sz) U U.heap)) := by
  intro a U g mk q
  obtain ⟨q0, q1, qP, qK, qD, qR⟩ := q
  exact ⟨q0, q1, qP, va_K.moved (u := U) (U := U.calling g mk a) (Vm.Alike.refl U.vm) qK, qD, qR.same rfl⟩
theorem run_G {p : Program} {l : Launch} {e : Env} {R : Room} {s : State} {m : MethodId} {args : Array Value} {below : List Frame} {meth : Method} {c : Code} {A : Nat → Prop} {D : va_G} {H : Heap} {locs : List Loc} {ls : Array Slot} {av : List Value}
    (hr : va_Run p l e R s m args below meth c H locs ce sl mc' ms' (F0 m pc ls st) rest (QA D (va_A wc H.size) post wf av.toArray) (va_A wc H.size))
    (hA : ∀ q, s.heap.size ≤ q → A q) (is : List Nat) (his : is.map (fun i => ws[i]?) = wc.map some) (hP : va_P D vwCl ws H) (hD : va_D A ws) (hS : va_S A s.heap H locs)
    (kk : ∀ (v : Option Value) (u : S) (H1 : Heap) (locs1 : List Loc), post v u → va_P D vwCl (wf u) H1 → va_D (va_A wc H.size) (wf u) → (∀ q : Nat, q < H.size → ¬ va_A wc H.size q → H1[q]? = H[q]?) → va_S A s.heap H1 locs1 → W p l e R s m args below meth c H1 locs1 (ce + mc') (sl + ms') Q (F0 m (pc + 3) ls (v.toList ++ rest))) :
    W p l e R s m args below meth c H locs ce sl Q (F0 m pc ls st) := by
  have hFc := va_free (wc := wc) hD hS hA is his
  intro T hT X
  obtain ⟨v, st₀, t, T', L', h0, X', hL, e1, e2, ⟨⟨v2, u, hv, hp, hP1, hD1⟩, hz, hk⟩, stp⟩ := hr T hT X
  cases hv
  rw [h0] at hz hk
  obtain ⟨t2, a1, b1⟩ := kk v u T'.heap (locs ++ L') hp (by rw [e1]; exact hP1) hD1 (fun q h1 h2 => by rw [e1]; exact hk q h1 h2)
    ⟨Nat.le_trans hS.1 (by rw [e1]; exact hz), fun q h1 h2 => by rw [e1, hk q (Nat.lt_of_lt_of_le h1 hS.1) (fun z => h2 (hFc q z))]; exact hS.2.1 q h1 h2, fun q hq => by
      rcases List.mem_append.mp hq with h | h
      · exact hS.2.2 q h
      · exact hFc _ (hL q h)⟩ T' rfl X'
  exact ⟨t2, stp t2 a1, b1⟩
theorem g_call (hX : CX X l0 D0 own nm cc nL rt rf rl mc ms) (d : decode cc pc = .ok (.invokevirtual idx, 3)) (cw : CW own idx y b maxL ret n) (hC : Ct l0 D0 y b maxL ret rf' rl' mc' ms' (.ref a :: As) wc post wf) (q0 ci : Nat) {fs : List Value} {T : u_T} {N : Nat} (is : List Nat) (hst : st = As.reverse ++ .ref a :: rest) (his : is.map (fun i => ws[i]?) = wc.map some) (hq : ws[q0]? = some (a, .inr (ci, fs))) (hci : vwCl[ci]? = some (y.cls, T, N)) (hnd : va_nd is = true) (hn : As.length = n) (hsame : ∀ u, (wf u).map Prod.fst = wc.map Prod.fst)
    (hroom : rf' + 1 ≤ rf ∧ 8 + (maxL + 11) + rl' ≤ rl) (hW : (rest.map fun v => v.category).sum ≤ 8) (hcs : ce + mc' ≤ mc ∧ sl + ms' ≤ ms)
    (kk : ∀ (v : Option Value) (u : S), post v u → G X Q (patch ws is (wf u)) (ce + mc') (sl + ms') (pc + 3) L (v.toList ++ rest)) : G X Q ws ce sl pc L st := by
  obtain ⟨w1, w2, w3, w4, w5, n1, n2, n3⟩ := cw
  obtain ⟨p, l, e, R, s, m, args, below, meth, c, D, A⟩ := X
  obtain ⟨hx, hb, hml, hown, hts, hK, hA, -, -, -, hRO, hf1, hl1, hc1, hs1, hl0, hD0⟩ := hX
  subst hl0; subst hD0
  intro H locs ls hP hD hS h
  have hPc : va_P D vwCl wc H := fun k x hx => by
    obtain ⟨i, h1, h2⟩ := map_at his hx
    exact hP i x h2
  have hDc : va_D (fun _ => True) wc := (hD.sub is hnd his).weaken (fun _ _ _ _ => trivial)
  have hFc := va_free (wc := wc) hD hS hA is his
  have cwf := cwV (R := R) (own := own) (C := y.cls) (index := idx) (maxL := maxL) (ret := ret) (bytes := b) (mc := mc') (ms := ms') (rm := { frames := rf', cells := mc', slots := ms', locals := rl' }) n hts (TB_gi (ws := wsV own idx y.cls y (Cond.code y b maxL ret :: TB)) (fun w hw => by
    rcases List.mem_append.mp hw with h | h
    · simp only [List.mem_cons, List.not_mem_nil, or_false] at h
      rcases h with rfl | rfl | rfl | rfl
      · exact w1
      · exact w2
      · exact w3
      · exact w4
    · exact goodCode w5 w h)) rfl rfl rfl ⟨rfl, n1, n2, n3⟩ ⟨Nat.le_trans hroom.1 hf1, Nat.le_trans hroom.2 hl1⟩
  have hrun := va_runV (rest := rest) (locs := locs) (cells := ce) (slots := sl) (e := e) (below := below) (meth := meth) (g := F0 m pc ls st) (H := H) ⟨hx, hb, rfl, hown, hts⟩ (hC H.size) cwf ⟨ct_blind, va_recv hK hP hci hq, fun U hU hW => ⟨rfl, by rw [hU], by rw [hU]; exact hPc, va_K.moved hW.alike hK, hDc, by rw [hU]; exact ((hRO.kept hS.2.1).narrow hFc).warm hW⟩⟩ rfl hn h.1 hst (lv_room hW) d ⟨Nat.le_trans hcs.1 hc1, Nat.le_trans hcs.2 hs1⟩
  refine run_G hrun hA is his hP hD hS (fun v u H1 locs1 hp hP1 hD1 hk1 hS1 => ?_)
  exact kk v u hp H1 locs1 ls (patch_P hP hD is his hnd (hsame u) hk1 hP1) (hD.ofFst (patch_fst is ws wc (wf u) his (hsame u) hnd)) hS1 h
theorem g_callF {res : Option Value} {w1 ws' : va_W} (hX : CX X l0 D0 own nm cc nL rt rf rl mc ms) (d : decode cc pc = .ok (.invokevirtual idx, 3)) (cw : CW own idx y b maxL ret n) (hC : Cf l0 D0 y b maxL ret rf' rl' (.ref a :: As) wc res w1) (q0 ci : Nat) {fs : List Value} {T : u_T} {N : Nat} (is : List Nat) (hst : st = As.reverse ++ .ref a :: rest) (his : is.map (fun i => ws[i]?) = wc.map some) (hq : ws[q0]? = some (a, .inr (ci, fs))) (hci : vwCl[ci]? = some (y.cls, T, N)) (hnd : va_nd is = true) (hn : As.length = n) (hsame : w1.map Prod.fst = wc.map Prod.fst)
    (hroom : rf' + 1 ≤ rf ∧ 8 + (maxL + 11) + rl' ≤ rl) (hW : (rest.map fun v => v.category).sum ≤ 8) (hce : ce ≤ mc) (hsl : sl ≤ ms) (hp : patch ws is w1 = ws')
    (kk : G X Q ws' ce sl (pc + 3) L (res.toList ++ rest)) : G X Q ws ce sl pc L st :=
  g_call hX d cw hC q0 ci is hst his hq hci hnd hn (fun _ => hsame) hroom hW ⟨hce, hsl⟩ (fun v _ hv => by subst hv; rw [hp]; exact kk)
theorem g_callS (hX : CX X l0 D0 own nm cc nL rt rf rl mc ms) (d : decode cc pc = .ok (.invokestatic idx, 3)) (cw : CWS own idx y b maxL ret n) (hC : Ct l0 D0 y b maxL ret rf' rl' mc' ms' As wc post wf) (is : List Nat) (hst : st = As.reverse ++ rest) (his : is.map (fun i => ws[i]?) = wc.map some) (hnd : va_nd is = true) (hn : As.length = n) (hsame : ∀ u, (wf u).map Prod.fst = wc.map Prod.fst)
    (hroom : rf' + 1 ≤ rf ∧ 8 + (maxL + 11) + rl' ≤ rl) (hW : (rest.map fun v => v.category).sum ≤ 8) (hcs : ce + mc' ≤ mc ∧ sl + ms' ≤ ms)
    (kk : ∀ (v : Option Value) (u : S), post v u → G X Q (patch ws is (wf u)) (ce + mc') (sl + ms') (pc + 3) L (v.toList ++ rest)) : G X Q ws ce sl pc L st := by
  obtain ⟨w1, w2, w3, w5, n1, n2, n3⟩ := cw
  obtain ⟨p, l, e, R, s, m, args, below, meth, c, D, A⟩ := X
  obtain ⟨hx, hb, hml, hown, hts, hK, hA, -, -, -, hRO, hf1, hl1, hc1, hs1, hl0, hD0⟩ := hX
  subst hl0; subst hD0
  intro H locs ls hP hD hS h
  have hPc : va_P D vwCl wc H := fun k x hx => by
    obtain ⟨i, h1, h2⟩ := map_at his hx
    exact hP i x h2
  have hDc : va_D (fun _ => True) wc := (hD.sub is hnd his).weaken (fun _ _ _ _ => trivial)
  have hFc := va_free (wc := wc) hD hS hA is his
  have cwf := va_cwS (R := R) (own := own) (index := idx) (maxL := maxL) (ret := ret) (bytes := b) (mc := mc') (ms := ms') (rm := { frames := rf', cells := mc', slots := ms', locals := rl' }) n hts (TB_gi (ws := va_wsS own idx y (Cond.code y b maxL ret :: TB)) (fun w hw => by
    rcases List.mem_append.mp hw with h | h
    · simp only [List.mem_cons, List.not_mem_nil, or_false] at h
      rcases h with rfl | rfl | rfl
      · exact w1
      · exact w2
      · exact w3
    · exact goodCode w5 w h)) rfl rfl rfl ⟨n1, n2, n3⟩ ⟨Nat.le_trans hroom.1 hf1, Nat.le_trans hroom.2 hl1⟩
  have hrun := va_runS (rest := rest) (locs := locs) (cells := ce) (slots := sl) (e := e) (below := below) (meth := meth) (g := F0 m pc ls st) (H := H) ⟨hx, hb, rfl, hown, hts⟩ (hC H.size) cwf ⟨ct_blind, fun U hU hW => ⟨rfl, by rw [hU], by rw [hU]; exact hPc, va_K.moved hW.alike hK, hDc, by rw [hU]; exact ((hRO.kept hS.2.1).narrow hFc).warm hW⟩⟩ rfl hn h.1 hst (lv_room hW) d ⟨Nat.le_trans hcs.1 hc1, Nat.le_trans hcs.2 hs1⟩
  refine run_G hrun hA is his hP hD hS (fun v u H1 locs1 hp hP1 hD1 hk1 hS1 => ?_)
  exact kk v u hp H1 locs1 ls (patch_P hP hD is his hnd (hsame u) hk1 hP1) (hD.ofFst (patch_fst is ws wc (wf u) his (hsame u) hnd)) hS1 h
theorem g_callSF {res : Option Value} {w1 ws' : va_W} (hX : CX X l0 D0 own nm cc nL rt rf rl mc ms) (d : decode cc pc = .ok (.invokestatic idx, 3)) (cw : CWS own idx y b maxL ret n) (hC : Cf l0 D0 y b maxL ret rf' rl' As wc res w1) (is : List Nat) (hst : st = As.reverse ++ rest) (his : is.map (fun i => ws[i]?) = wc.map some) (hnd : va_nd is = true) (hn : As.length = n) (hsame : w1.map Prod.fst = wc.map Prod.fst)
    (hroom : rf' + 1 ≤ rf ∧ 8 + (maxL + 11) + rl' ≤ rl) (hW : (rest.map fun v => v.category).sum ≤ 8) (hce : ce ≤ mc) (hsl : sl ≤ ms) (hp : patch ws is w1 = ws')
    (kk : G X Q ws' ce sl (pc + 3) L (res.toList ++ rest)) : G X Q ws ce sl pc L st :=
  g_callS hX d cw hC is hst his hnd hn (fun _ => hsame) hroom hW ⟨hce, hsl⟩ (fun v _ hv => by subst hv; rw [hp]; exact kk)
end GC
/-! loops -/
theorem loopN {P : Nat → Prop} (N : Nat) (step : ∀ h, h ≤ N → (h < N → P (h + 1)) → P h) : ∀ h, h ≤ N → P h := by
  have key : ∀ n h, h + n = N → P h := by
    intro n
    induction n with
    | zero => exact fun h e => step h (by omega) (fun q => absurd q (by omega))
    | succ n ih => exact fun h e => step h (by omega) (fun _ => ih (h + 1) (by omega))
  exact fun h e => key (N - h) h (by omega)
theorem loopD {P : Nat → Prop} (step : ∀ h, (∀ j, h = j + 1 → P j) → P h) : ∀ h, P h := by
  intro h
  induction h with
  | zero => exact step 0 (fun j e => absurd e (by omega))
  | succ n ih =>
    refine step (n + 1) (fun j e => ?_)
    have e2 : j = n := by omega
    rw [e2]
    exact ih
theorem loopM {α : Type} {P : α → Prop} (μ : α → Nat) (step : ∀ a, (∀ b, μ b < μ a → P b) → P a) : ∀ a, P a := by
  have key : ∀ n a, μ a < n → P a := by
    intro n
    induction n with
    | zero => exact fun a h => absurd h (by omega)
    | succ n ih => exact fun a h => step a (fun b hb => ih b (by omega))
  exact fun a => key (μ a + 1) a (by omega)
