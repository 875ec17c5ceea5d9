/-! the judgement -/
abbrev CT : Type := Program × Launch × Env × Room × State × MethodId × Array Value × List Frame × Method × Code × va_G × (Nat → Prop)
abbrev tysD (D : va_G) : List (ClassId × FieldType) := [(D.1 100, .int), (D.1 101, .char), (D.1 102, .boolean), (D.1 103, .object "SightSpacing$State"), (D.1 104, .byte)]
def CX (X : CT) (l0 : Launch) (D0 : va_G) (own nm : String) (cc : ByteArray) (nL : Nat) (rt : Option FieldType) (rf rl mc ms : Nat) : Prop :=
  match X with
  | (p, l, _, R, s, m, args, _, meth, c, D, A) =>
    p.tables.exec = Jvm.exec ∧ c.code = cc ∧ c.maxLocals = nL ∧ s.vm.findClass own = some m.cls ∧ (∀ w ∈ TB, w.before args s = true) ∧ va_K D vwCl (tysD D) s ∧ (∀ q, s.heap.size ≤ q → A q) ∧ meth.locks = false ∧ meth.sig.returnType = rt ∧ meth.name = nm ∧ RO D A s s.heap ∧ rf ≤ R.frames ∧ rl ≤ R.locals ∧ mc ≤ R.cells ∧ ms ≤ R.slots ∧ l = l0 ∧ D = D0
def G (X : CT) (Q : State → Prop) (ws : va_W) (ce sl pc : Nat) (L : List (Option Value)) (st : List Value) : Prop :=
  match X with
  | (p, l, e, R, s, m, args, below, meth, c, D, A) =>
    ∀ (H : Heap) (locs : List Loc) (ls : Array Slot), va_P D vwCl ws H → va_D A ws → va_S A s.heap H locs → LH ls c.maxLocals L → W p l e R s m args below meth c H locs ce sl Q (F0 m pc ls st)
/-! contracts -/
def QA {S : Type} (D : va_G) (A : Nat → Prop) (post : Option Value → S → Prop) (wf : S → va_W) : Array Value → State → Outcome → State → Prop := fun _ st oc t =>
  (∃ (v : Option Value) (u : S), oc = .returned v ∧ post v u ∧ va_P D vwCl (wf u) t.heap ∧ va_D A (wf u)) ∧ va_F A st t
def Ct {S : Type} (l : Launch) (D : va_G) (y : MethodName) (b : ByteArray) (maxL : Nat) (ret : Option FieldType) (rf rl mc ms : Nat) (av : List Value) (wc : va_W) (post : Option Value → S → Prop) (wf : S → va_W) : Prop :=
  ∀ sz : Nat, Met l y (Cond.code y b maxL ret :: TB) { frames := rf, cells := mc, slots := ms, locals := rl } (va_Pc av (fun U => U.heap.size = sz ∧ va_P D vwCl wc U.heap ∧ va_K D vwCl (tysD D) U ∧ va_D (fun _ => True) wc ∧ RO D (va_A wc sz) U U.heap)) (QA D (va_A wc sz) post wf) mc ms (va_A wc sz)
abbrev Cf (l : Launch) (D : va_G) (y : MethodName) (b : ByteArray) (maxL : Nat) (ret : Option FieldType) (rf rl : Nat) (av : List Value) (wc : va_W) (res : Option Value) (w1 : va_W) : Prop :=
  Ct l D y b maxL ret rf rl 0 0 av wc (fun v (_ : Unit) => v = res) (fun _ => w1)
def QM {S : Type} (X : CT) (mc ms : Nat) (post : Option Value → S → Prop) (wf : S → va_W) : State → Prop :=
  match X with
  | (_, _, _, _, s, _, args, below, _, _, D, A) => MQ below (QA D A post wf) args s mc ms A
theorem Ct.ofG {S : Type} {l : Launch} {D : va_G} {y : MethodName} {b : ByteArray} {maxL : Nat} {ret : Option FieldType} {rf rl mc ms : Nat} {av : List Value} {wc : va_W} {post : Option Value → S → Prop} {wf : S → va_W}
    (hy : plainName y.cls = true) (hav : (lg_sl av).length ≤ maxL)
    (body : ∀ X : CT, CX X l D y.cls y.name b maxL ret rf rl mc ms → G X (QM X mc ms post wf) wc 0 0 0 (lpos av maxL) []) : Ct l D y b maxL ret rf rl mc ms av wc post wf := by
  intro sz
  refine Met.ofW (cc := b) (maxL := maxL) (ret := ret) hy rfl ?_
  intro p e s m args below meth c s₁ B hml hv
  obtain ⟨rfl, hsz, hP, hK, hD0, hR⟩ := hv
  subst hsz
  have hts := atoms_spec (ws := Cond.code y b maxL ret :: TB) B.pre
  have h := body (p, l, e, { frames := rf, cells := mc, slots := ms, locals := rl }, s, m, av.toArray, below, meth, c, D, va_A wc s.heap.size)
    ⟨B.exec, B.bytes, hml, findClass_of_methodNamed B.named, fun w hw => hts w (List.mem_cons_of_mem _ hw), hK, fun q h => Or.inr h, B.notSynchronized, B.returns, (name_of_methodNamed B.named B.method).1, hR, Nat.le_refl _, Nat.le_refl _, Nat.le_refl _, Nat.le_refl _, rfl, rfl⟩
  rw [lg_entry_eq]
  exact h s.heap [] _ hP (hD0.self (sz := s.heap.size)) va_S.rf (by rw [hml]; exact LH.entry av hav)
section GR
variable {X : CT} {l0 : Launch} {D0 : va_G} {own nm : String} {cc : ByteArray} {nL : Nat} {rt : Option FieldType} {rf rl mc ms : Nat} {Q : State → Prop} {ws : va_W} {ce sl pc : Nat} {L : List (Option Value)} {st : List Value}
theorem g_fin {ws' : va_W} {L' : List (Option Value)} {st' : List Value} (h : G X Q ws' ce sl pc L' st') (hw : ws = ws') (hs : st = st') (hl : lle L' L) : G X Q ws ce sl pc L st := by
  subst hw; subst hs
  obtain ⟨p, l, e, R, s, m, args, below, meth, c, D, A⟩ := X
  intro H locs ls hP hD hS h1
  exact h H locs ls hP hD hS ⟨h1.1, h1.2.1, fun i v hi => h1.2.2 i v (lle_at _ _ i v hl hi)⟩
theorem g_to {L' : List (Option Value)} (h : G X Q ws ce sl pc L' st) (hl : lle L' L) : G X Q ws ce sl pc L st := g_fin h rfl rfl hl
theorem g_eq {ws' : va_W} {L' : List (Option Value)} {st' : List Value} (h : G X Q ws' ce sl pc L' st') (hw : ws = ws') (hs : st = st') (hl : L = L') : G X Q ws ce sl pc L st := by subst hw; subst hs; subst hl; exact h
theorem g_top {v v' : Int32} (hv : v = v') (h : G X Q ws ce sl pc L (.int v' :: st)) : G X Q ws ce sl pc L (.int v :: st) := by subst hv; exact h
theorem g_sec {v v' : Int32} {z : Value} (hv : v = v') (h : G X Q ws ce sl pc L (z :: .int v' :: st)) : G X Q ws ce sl pc L (z :: .int v :: st) := by subst hv; exact h
theorem g_widen {k n : Nat} (h1 : ce ≤ k) (h2 : sl ≤ n) (h : G X Q ws k n pc L st) : G X Q ws ce sl pc L st := by
  obtain ⟨p, l, e, R, s, m, args, below, meth, c, D, A⟩ := X
  intro H locs ls hP hD hS hl
  exact W.widen h1 h2 (h H locs ls hP hD hS hl)
/-! constants -/
theorem g_iconst (hX : CX X l0 D0 own nm cc nL rt rf rl mc ms) {n : Int} {v : Int32} (d : decode cc pc = .ok (.iconst n, 1)) (hv : Int32.ofInt n = v) (k : G X Q ws ce sl (pc + 1) L (.int v :: st)) : G X Q ws ce sl pc L st := by
  obtain ⟨p, l, e, R, s, m, args, below, meth, c, D, A⟩ := X
  intro H locs ls hP hD hS hl
  exact lv_iconst hX.1 hX.2.1 d hv (k H locs ls hP hD hS hl)
theorem g_bipush (hX : CX X l0 D0 own nm cc nL rt rf rl mc ms) {n : Int} {v : Int32} (d : decode cc pc = .ok (.bipush n, 2)) (hv : (Int8.ofInt n).toInt32 = v) (k : G X Q ws ce sl (pc + 2) L (.int v :: st)) : G X Q ws ce sl pc L st := by
  obtain ⟨p, l, e, R, s, m, args, below, meth, c, D, A⟩ := X
  intro H locs ls hP hD hS hl
  exact lv_bipush hX.1 hX.2.1 d hv (k H locs ls hP hD hS hl)
theorem g_sipush (hX : CX X l0 D0 own nm cc nL rt rf rl mc ms) {n : Int} {v : Int32} (d : decode cc pc = .ok (.sipush n, 3)) (hv : (Int16.ofInt n).toInt32 = v) (k : G X Q ws ce sl (pc + 3) L (.int v :: st)) : G X Q ws ce sl pc L st := by
  obtain ⟨p, l, e, R, s, m, args, below, meth, c, D, A⟩ := X
  intro H locs ls hP hD hS hl
  exact lv_sipush hX.1 hX.2.1 d hv (k H locs ls hP hD hS hl)
theorem g_lconst (hX : CX X l0 D0 own nm cc nL rt rf rl mc ms) {n : Fin 2} {v : Int64} (d : decode cc pc = .ok (.lconst n, 1)) (hv : Int64.ofNat (n : Nat) = v) (k : G X Q ws ce sl (pc + 1) L (.long v :: st)) : G X Q ws ce sl pc L st := by
  obtain ⟨p, l, e, R, s, m, args, below, meth, c, D, A⟩ := X
  intro H locs ls hP hD hS hl
  exact lv_lconst hX.1 hX.2.1 d hv (k H locs ls hP hD hS hl)
theorem g_ldc (hX : CX X l0 D0 own nm cc nL rt rf rl mc ms) {i : Nat} {v : Int32} (d : decode cc pc = .ok (.ldc i, 2)) (hw : Cond.constant own i v ∈ TB) (k : G X Q ws ce sl (pc + 2) L (.int v :: st)) : G X Q ws ce sl pc L st := by
  obtain ⟨p, l, e, R, s, m, args, below, meth, c, D, A⟩ := X
  intro H locs ls hP hD hS hl
  exact lv_ldc hX.1 hX.2.1 hX.2.2.2.1 (hX.2.2.2.2.1 _ hw) d (k H locs ls hP hD hS hl)
theorem g_ldcw (hX : CX X l0 D0 own nm cc nL rt rf rl mc ms) {i : Nat} {v : Int32} (d : decode cc pc = .ok (.ldc_w i, 3)) (hw : Cond.constant own i v ∈ TB) (k : G X Q ws ce sl (pc + 3) L (.int v :: st)) : G X Q ws ce sl pc L st := by
  obtain ⟨p, l, e, R, s, m, args, below, meth, c, D, A⟩ := X
  intro H locs ls hP hD hS hl
  exact lv_ldcw hX.1 hX.2.1 hX.2.2.2.1 (hX.2.2.2.2.1 _ hw) d (k H locs ls hP hD hS hl)
theorem g_ldc2 (hX : CX X l0 D0 own nm cc nL rt rf rl mc ms) {i : Nat} {v : Int64} (d : decode cc pc = .ok (.ldc2_w i, 3)) (hw : Cond.constantLong own i v ∈ TB) (k : G X Q ws ce sl (pc + 3) L (.long v :: st)) : G X Q ws ce sl pc L st := by
  obtain ⟨p, l, e, R, s, m, args, below, meth, c, D, A⟩ := X
  intro H locs ls hP hD hS hl
  exact lv_ldc2 hX.1 hX.2.1 hX.2.2.2.1 (hX.2.2.2.2.1 _ hw) d (k H locs ls hP hD hS hl)
/-! locals -/
theorem g_iload_n (hX : CX X l0 D0 own nm cc nL rt rf rl mc ms) {j : Fin 4} {x : Int32} (d : decode cc pc = .ok (.iload_n j, 1)) (hl : lgt L (j : Nat) = some (.int x)) (k : G X Q ws ce sl (pc + 1) L (.int x :: st)) : G X Q ws ce sl pc L st := by
  obtain ⟨p, l, e, R, s, m, args, below, meth, c, D, A⟩ := X
  intro H locs ls hP hD hS h
  exact lv_iload_n hX.1 hX.2.1 d rfl (h.at hl) (k H locs ls hP hD hS h)
theorem g_iload (hX : CX X l0 D0 own nm cc nL rt rf rl mc ms) {j : Nat} {x : Int32} (d : decode cc pc = .ok (.iload j, 2)) (hl : lgt L j = some (.int x)) (k : G X Q ws ce sl (pc + 2) L (.int x :: st)) : G X Q ws ce sl pc L st := by
  obtain ⟨p, l, e, R, s, m, args, below, meth, c, D, A⟩ := X
  intro H locs ls hP hD hS h
  exact lv_iload hX.1 hX.2.1 d (h.at hl) (k H locs ls hP hD hS h)
theorem g_lload_n (hX : CX X l0 D0 own nm cc nL rt rf rl mc ms) {j : Fin 4} {x : Int64} (d : decode cc pc = .ok (.lload_n j, 1)) (hl : lgt L (j : Nat) = some (.long x)) (k : G X Q ws ce sl (pc + 1) L (.long x :: st)) : G X Q ws ce sl pc L st := by
  obtain ⟨p, l, e, R, s, m, args, below, meth, c, D, A⟩ := X
  intro H locs ls hP hD hS h
  exact lv_lload_n hX.1 hX.2.1 d rfl (h.at hl) (k H locs ls hP hD hS h)
theorem g_lload (hX : CX X l0 D0 own nm cc nL rt rf rl mc ms) {j : Nat} {x : Int64} (d : decode cc pc = .ok (.lload j, 2)) (hl : lgt L j = some (.long x)) (k : G X Q ws ce sl (pc + 2) L (.long x :: st)) : G X Q ws ce sl pc L st := by
  obtain ⟨p, l, e, R, s, m, args, below, meth, c, D, A⟩ := X
  intro H locs ls hP hD hS h
  exact lv_lload hX.1 hX.2.1 d (h.at hl) (k H locs ls hP hD hS h)
theorem g_aload_n (hX : CX X l0 D0 own nm cc nL rt rf rl mc ms) {j : Fin 4} {x : Nat} (d : decode cc pc = .ok (.aload_n j, 1)) (hl : lgt L (j : Nat) = some (.ref x)) (k : G X Q ws ce sl (pc + 1) L (.ref x :: st)) : G X Q ws ce sl pc L st := by
  obtain ⟨p, l, e, R, s, m, args, below, meth, c, D, A⟩ := X
  intro H locs ls hP hD hS h
  exact lv_aload_n hX.1 hX.2.1 d rfl (h.at hl) (k H locs ls hP hD hS h)
theorem g_aload (hX : CX X l0 D0 own nm cc nL rt rf rl mc ms) {j : Nat} {x : Nat} (d : decode cc pc = .ok (.aload j, 2)) (hl : lgt L j = some (.ref x)) (k : G X Q ws ce sl (pc + 2) L (.ref x :: st)) : G X Q ws ce sl pc L st := by
  obtain ⟨p, l, e, R, s, m, args, below, meth, c, D, A⟩ := X
  intro H locs ls hP hD hS h
  exact lv_aload hX.1 hX.2.1 d (h.at hl) (k H locs ls hP hD hS h)
theorem g_istore_n (hX : CX X l0 D0 own nm cc nL rt rf rl mc ms) {j : Fin 4} {x : Int32} {L' : List (Option Value)} (d : decode cc pc = .ok (.istore_n j, 1)) (hn : (j : Nat) < nL) (hl : ls1 L (j : Nat) (.int x) = L') (k : G X Q ws ce sl (pc + 1) L' st) : G X Q ws ce sl pc L (.int x :: st) := by
  subst hl
  obtain ⟨p, l, e, R, s, m, args, below, meth, c, D, A⟩ := X
  intro H locs ls hP hD hS h
  exact lv_istore_n hX.1 hX.2.1 d rfl h.has (by rw [hX.2.2.1]; exact hn) rfl (fun ls' h' => k H locs ls' hP hD hS (LH.st1 h'))
theorem g_istore (hX : CX X l0 D0 own nm cc nL rt rf rl mc ms) {j : Nat} {x : Int32} {L' : List (Option Value)} (d : decode cc pc = .ok (.istore j, 2)) (hn : j < nL) (hl : ls1 L j (.int x) = L') (k : G X Q ws ce sl (pc + 2) L' st) : G X Q ws ce sl pc L (.int x :: st) := by
  subst hl
  obtain ⟨p, l, e, R, s, m, args, below, meth, c, D, A⟩ := X
  intro H locs ls hP hD hS h
  exact lv_istore hX.1 hX.2.1 d h.has (by rw [hX.2.2.1]; exact hn) rfl (fun ls' h' => k H locs ls' hP hD hS (LH.st1 h'))
theorem g_lstore_n (hX : CX X l0 D0 own nm cc nL rt rf rl mc ms) {j : Fin 4} {x : Int64} {L' : List (Option Value)} (d : decode cc pc = .ok (.lstore_n j, 1)) (hn : (j : Nat) + 1 < nL) (hl : ls2 L (j : Nat) (.long x) = L') (k : G X Q ws ce sl (pc + 1) L' st) : G X Q ws ce sl pc L (.long x :: st) := by
  subst hl
  obtain ⟨p, l, e, R, s, m, args, below, meth, c, D, A⟩ := X
  intro H locs ls hP hD hS h
  exact lv_lstore_n hX.1 hX.2.1 d rfl h.has (by rw [hX.2.2.1]; exact hn) rfl (fun ls' h' => k H locs ls' hP hD hS (LH.st2 h'))
theorem g_lstore (hX : CX X l0 D0 own nm cc nL rt rf rl mc ms) {j : Nat} {x : Int64} {L' : List (Option Value)} (d : decode cc pc = .ok (.lstore j, 2)) (hn : j + 1 < nL) (hl : ls2 L j (.long x) = L') (k : G X Q ws ce sl (pc + 2) L' st) : G X Q ws ce sl pc L (.long x :: st) := by
  subst hl
  obtain ⟨p, l, e, R, s, m, args, below, meth, c, D, A⟩ := X
  intro H locs ls hP hD hS h
  exact lv_lstore hX.1 hX.2.1 d h.has (by rw [hX.2.2.1]; exact hn) rfl (fun ls' h' => k H locs ls' hP hD hS (LH.st2 h'))
theorem g_astore_n (hX : CX X l0 D0 own nm cc nL rt rf rl mc ms) {j : Fin 4} {x : Nat} {L' : List (Option Value)} (d : decode cc pc = .ok (.astore_n j, 1)) (hn : (j : Nat) < nL) (hl : ls1 L (j : Nat) (.ref x) = L') (k : G X Q ws ce sl (pc + 1) L' st) : G X Q ws ce sl pc L (.ref x :: st) := by
  subst hl
  obtain ⟨p, l, e, R, s, m, args, below, meth, c, D, A⟩ := X
  intro H locs ls hP hD hS h
  exact lv_astore_n hX.1 hX.2.1 d rfl h.has (by rw [hX.2.2.1]; exact hn) rfl (fun ls' h' => k H locs ls' hP hD hS (LH.st1 h'))
theorem g_astore (hX : CX X l0 D0 own nm cc nL rt rf rl mc ms) {j : Nat} {x : Nat} {L' : List (Option Value)} (d : decode cc pc = .ok (.astore j, 2)) (hn : j < nL) (hl : ls1 L j (.ref x) = L') (k : G X Q ws ce sl (pc + 2) L' st) : G X Q ws ce sl pc L (.ref x :: st) := by
  subst hl
  obtain ⟨p, l, e, R, s, m, args, below, meth, c, D, A⟩ := X
  intro H locs ls hP hD hS h
  exact lv_astore hX.1 hX.2.1 d h.has (by rw [hX.2.2.1]; exact hn) rfl (fun ls' h' => k H locs ls' hP hD hS (LH.st1 h'))
theorem g_iinc (hX : CX X l0 D0 own nm cc nL rt rf rl mc ms) {j : Nat} {n : Int} {x v : Int32} {L' : List (Option Value)} (d : decode cc pc = .ok (.iinc j n, 3)) (hj : lgt L j = some (.int x)) (hv : x + Int32.ofInt n = v) (hn : j < nL) (hl : ls1 L j (.int v) = L') (k : G X Q ws ce sl (pc + 3) L' st) : G X Q ws ce sl pc L st := by
  subst hl
  obtain ⟨p, l, e, R, s, m, args, below, meth, c, D, A⟩ := X
  intro H locs ls hP hD hS h
  obtain ⟨i, hi⟩ := List.getElem?_of_mem (lpr_mem (q := (j, .int x)).mpr hj)
  exact lv_iinc hX.1 hX.2.1 d h.has hi hv (by rw [hX.2.2.1]; exact hn) rfl (fun ls' h' => k H locs ls' hP hD hS (LH.st1 h'))
theorem g_iadd (hX : CX X l0 D0 own nm cc nL rt rf rl mc ms) {x y : Int32} (d : decode cc pc = .ok (.iadd, 1)) (k : G X Q ws ce sl (pc + 1) L (.int (x + y) :: st)) : G X Q ws ce sl pc L (.int y :: .int x :: st) := by
  obtain ⟨p, l, e, R, s, m, args, below, meth, c, D, A⟩ := X
  intro H locs ls hP hD hS hl
  exact lv_iadd hX.1 hX.2.1 d (k H locs ls hP hD hS hl)
theorem g_isub (hX : CX X l0 D0 own nm cc nL rt rf rl mc ms) {x y : Int32} (d : decode cc pc = .ok (.isub, 1)) (k : G X Q ws ce sl (pc + 1) L (.int (x - y) :: st)) : G X Q ws ce sl pc L (.int y :: .int x :: st) := by
  obtain ⟨p, l, e, R, s, m, args, below, meth, c, D, A⟩ := X
  intro H locs ls hP hD hS hl
  exact lv_isub hX.1 hX.2.1 d (k H locs ls hP hD hS hl)
theorem g_imul (hX : CX X l0 D0 own nm cc nL rt rf rl mc ms) {x y : Int32} (d : decode cc pc = .ok (.imul, 1)) (k : G X Q ws ce sl (pc + 1) L (.int (x * y) :: st)) : G X Q ws ce sl pc L (.int y :: .int x :: st) := by
  obtain ⟨p, l, e, R, s, m, args, below, meth, c, D, A⟩ := X
  intro H locs ls hP hD hS hl
  exact lv_imul hX.1 hX.2.1 d (k H locs ls hP hD hS hl)
theorem g_iand (hX : CX X l0 D0 own nm cc nL rt rf rl mc ms) {x y : Int32} (d : decode cc pc = .ok (.iand, 1)) (k : G X Q ws ce sl (pc + 1) L (.int (x &&& y) :: st)) : G X Q ws ce sl pc L (.int y :: .int x :: st) := by
  obtain ⟨p, l, e, R, s, m, args, below, meth, c, D, A⟩ := X
  intro H locs ls hP hD hS hl
  exact lv_iand hX.1 hX.2.1 d (k H locs ls hP hD hS hl)
theorem g_ior (hX : CX X l0 D0 own nm cc nL rt rf rl mc ms) {x y : Int32} (d : decode cc pc = .ok (.ior, 1)) (k : G X Q ws ce sl (pc + 1) L (.int (x ||| y) :: st)) : G X Q ws ce sl pc L (.int y :: .int x :: st) := by
  obtain ⟨p, l, e, R, s, m, args, below, meth, c, D, A⟩ := X
  intro H locs ls hP hD hS hl
  exact lv_ior hX.1 hX.2.1 d (k H locs ls hP hD hS hl)
theorem g_ixor (hX : CX X l0 D0 own nm cc nL rt rf rl mc ms) {x y : Int32} (d : decode cc pc = .ok (.ixor, 1)) (k : G X Q ws ce sl (pc + 1) L (.int (x ^^^ y) :: st)) : G X Q ws ce sl pc L (.int y :: .int x :: st) := by
  obtain ⟨p, l, e, R, s, m, args, below, meth, c, D, A⟩ := X
  intro H locs ls hP hD hS hl
  exact lv_ixor hX.1 hX.2.1 d (k H locs ls hP hD hS hl)
theorem g_ishl (hX : CX X l0 D0 own nm cc nL rt rf rl mc ms) {x y : Int32} (d : decode cc pc = .ok (.ishl, 1)) (k : G X Q ws ce sl (pc + 1) L (.int (x <<< (y &&& 31)) :: st)) : G X Q ws ce sl pc L (.int y :: .int x :: st) := by
  obtain ⟨p, l, e, R, s, m, args, below, meth, c, D, A⟩ := X
  intro H locs ls hP hD hS hl
  exact lv_ishl hX.1 hX.2.1 d (k H locs ls hP hD hS hl)
theorem g_ishr (hX : CX X l0 D0 own nm cc nL rt rf rl mc ms) {x y : Int32} (d : decode cc pc = .ok (.ishr, 1)) (k : G X Q ws ce sl (pc + 1) L (.int (x >>> (y &&& 31)) :: st)) : G X Q ws ce sl pc L (.int y :: .int x :: st) := by
  obtain ⟨p, l, e, R, s, m, args, below, meth, c, D, A⟩ := X
  intro H locs ls hP hD hS hl
  exact lv_ishr hX.1 hX.2.1 d (k H locs ls hP hD hS hl)
theorem g_idiv (hX : CX X l0 D0 own nm cc nL rt rf rl mc ms) {x y : Int32} (d : decode cc pc = .ok (.idiv, 1)) (hne : ¬ y = 0) (k : G X Q ws ce sl (pc + 1) L (.int (x / y) :: st)) : G X Q ws ce sl pc L (.int y :: .int x :: st) := by
  obtain ⟨p, l, e, R, s, m, args, below, meth, c, D, A⟩ := X
  intro H locs ls hP hD hS hl
  exact lv_idiv hX.1 hX.2.1 d hne (k H locs ls hP hD hS hl)
theorem g_irem (hX : CX X l0 D0 own nm cc nL rt rf rl mc ms) {x y : Int32} (d : decode cc pc = .ok (.irem, 1)) (hne : ¬ y = 0) (k : G X Q ws ce sl (pc + 1) L (.int (x - x / y * y) :: st)) : G X Q ws ce sl pc L (.int y :: .int x :: st) := by
  obtain ⟨p, l, e, R, s, m, args, below, meth, c, D, A⟩ := X
  intro H locs ls hP hD hS hl
  exact lv_irem hX.1 hX.2.1 d hne (k H locs ls hP hD hS hl)
theorem g_ineg (hX : CX X l0 D0 own nm cc nL rt rf rl mc ms) {x : Int32} (d : decode cc pc = .ok (.ineg, 1)) (k : G X Q ws ce sl (pc + 1) L (.int (-x) :: st)) : G X Q ws ce sl pc L (.int x :: st) := by
  obtain ⟨p, l, e, R, s, m, args, below, meth, c, D, A⟩ := X
  intro H locs ls hP hD hS hl
  exact lv_ineg hX.1 hX.2.1 d (k H locs ls hP hD hS hl)
theorem g_ladd (hX : CX X l0 D0 own nm cc nL rt rf rl mc ms) {x y : Int64} (d : decode cc pc = .ok (.ladd, 1)) (k : G X Q ws ce sl (pc + 1) L (.long (x + y) :: st)) : G X Q ws ce sl pc L (.long y :: .long x :: st) := by
  obtain ⟨p, l, e, R, s, m, args, below, meth, c, D, A⟩ := X
  intro H locs ls hP hD hS hl
  exact lv_ladd hX.1 hX.2.1 d (k H locs ls hP hD hS hl)
theorem g_lsub (hX : CX X l0 D0 own nm cc nL rt rf rl mc ms) {x y : Int64} (d : decode cc pc = .ok (.lsub, 1)) (k : G X Q ws ce sl (pc + 1) L (.long (x - y) :: st)) : G X Q ws ce sl pc L (.long y :: .long x :: st) := by
  obtain ⟨p, l, e, R, s, m, args, below, meth, c, D, A⟩ := X
  intro H locs ls hP hD hS hl
  exact lv_lsub hX.1 hX.2.1 d (k H locs ls hP hD hS hl)
theorem g_lmul (hX : CX X l0 D0 own nm cc nL rt rf rl mc ms) {x y : Int64} (d : decode cc pc = .ok (.lmul, 1)) (k : G X Q ws ce sl (pc + 1) L (.long (x * y) :: st)) : G X Q ws ce sl pc L (.long y :: .long x :: st) := by
  obtain ⟨p, l, e, R, s, m, args, below, meth, c, D, A⟩ := X
  intro H locs ls hP hD hS hl
  exact lv_lmul hX.1 hX.2.1 d (k H locs ls hP hD hS hl)
theorem g_lrem (hX : CX X l0 D0 own nm cc nL rt rf rl mc ms) {x y : Int64} (d : decode cc pc = .ok (.lrem, 1)) (hne : ¬ y = 0) (k : G X Q ws ce sl (pc + 1) L (.long (x - x / y * y) :: st)) : G X Q ws ce sl pc L (.long y :: .long x :: st) := by
  obtain ⟨p, l, e, R, s, m, args, below, meth, c, D, A⟩ := X
  intro H locs ls hP hD hS hl
  exact lv_lrem hX.1 hX.2.1 d hne (k H locs ls hP hD hS hl)
theorem g_lcmp (hX : CX X l0 D0 own nm cc nL rt rf rl mc ms) {x y : Int64} (d : decode cc pc = .ok (.lcmp, 1)) (k : G X Q ws ce sl (pc + 1) L (.int (lg_cmp x y) :: st)) : G X Q ws ce sl pc L (.long y :: .long x :: st) := by
  obtain ⟨p, l, e, R, s, m, args, below, meth, c, D, A⟩ := X
  intro H locs ls hP hD hS hl
  exact W.lcmp hX.1 hX.2.1 d (k H locs ls hP hD hS hl)
theorem g_i2l (hX : CX X l0 D0 own nm cc nL rt rf rl mc ms) {x : Int32} (d : decode cc pc = .ok (.i2l, 1)) (k : G X Q ws ce sl (pc + 1) L (.long x.toInt64 :: st)) : G X Q ws ce sl pc L (.int x :: st) := by
  obtain ⟨p, l, e, R, s, m, args, below, meth, c, D, A⟩ := X
  intro H locs ls hP hD hS hl
  exact lv_i2l hX.1 hX.2.1 d rfl (k H locs ls hP hD hS hl)
theorem g_l2i (hX : CX X l0 D0 own nm cc nL rt rf rl mc ms) {x : Int64} (d : decode cc pc = .ok (.l2i, 1)) (k : G X Q ws ce sl (pc + 1) L (.int x.toInt32 :: st)) : G X Q ws ce sl pc L (.long x :: st) := by
  obtain ⟨p, l, e, R, s, m, args, below, meth, c, D, A⟩ := X
  intro H locs ls hP hD hS hl
  exact lv_l2i hX.1 hX.2.1 d rfl (k H locs ls hP hD hS hl)
theorem g_i2c (hX : CX X l0 D0 own nm cc nL rt rf rl mc ms) {x v : Int32} (d : decode cc pc = .ok (.i2c, 1)) (hv : (x.toUInt32 % 65536).toInt32 = v) (k : G X Q ws ce sl (pc + 1) L (.int v :: st)) : G X Q ws ce sl pc L (.int x :: st) := by
  obtain ⟨p, l, e, R, s, m, args, below, meth, c, D, A⟩ := X
  intro H locs ls hP hD hS hl
  exact lv_i2c hX.1 hX.2.1 d hv (k H locs ls hP hD hS hl)
theorem g_i2b (hX : CX X l0 D0 own nm cc nL rt rf rl mc ms) {x v : Int32} (d : decode cc pc = .ok (.i2b, 1)) (hv : x.toInt8.toInt32 = v) (k : G X Q ws ce sl (pc + 1) L (.int v :: st)) : G X Q ws ce sl pc L (.int x :: st) := by
  obtain ⟨p, l, e, R, s, m, args, below, meth, c, D, A⟩ := X
  intro H locs ls hP hD hS hl
  exact lv_i2b hX.1 hX.2.1 d hv (k H locs ls hP hD hS hl)
theorem g_iushr (hX : CX X l0 D0 own nm cc nL rt rf rl mc ms) {x y : Int32} (d : decode cc pc = .ok (.iushr, 1)) (k : G X Q ws ce sl (pc + 1) L (.int ((x.toUInt32 >>> (y.toUInt32 &&& Int32.toUInt32 31)).toInt32) :: st)) : G X Q ws ce sl pc L (.int y :: .int x :: st) := by
  obtain ⟨p, l, e, R, s, m, args, below, meth, c, D, A⟩ := X
  intro H locs ls hP hD hS hl
  exact lv_iushr hX.1 hX.2.1 d rfl (k H locs ls hP hD hS hl)
theorem g_dup (hX : CX X l0 D0 own nm cc nL rt rf rl mc ms) {va : Value} (d : decode cc pc = .ok (.dup, 1)) (hva : va.category = 1) (k : G X Q ws ce sl (pc + 1) L (va :: va :: st)) : G X Q ws ce sl pc L (va :: st) := by
  obtain ⟨p, l, e, R, s, m, args, below, meth, c, D, A⟩ := X
  intro H locs ls hP hD hS hl
  exact lv_dup hX.1 hX.2.1 d hva (k H locs ls hP hD hS hl)
theorem g_pop (hX : CX X l0 D0 own nm cc nL rt rf rl mc ms) {va : Value} (d : decode cc pc = .ok (.pop, 1)) (hva : va.category = 1) (k : G X Q ws ce sl (pc + 1) L (st)) : G X Q ws ce sl pc L (va :: st) := by
  obtain ⟨p, l, e, R, s, m, args, below, meth, c, D, A⟩ := X
  intro H locs ls hP hD hS hl
  exact lv_pop hX.1 hX.2.1 d hva (k H locs ls hP hD hS hl)
theorem g_dup_x1 (hX : CX X l0 D0 own nm cc nL rt rf rl mc ms) {va vb : Value} (d : decode cc pc = .ok (.dup_x1, 1)) (hva : va.category = 1) (hvb : vb.category = 1) (k : G X Q ws ce sl (pc + 1) L (va :: vb :: va :: st)) : G X Q ws ce sl pc L (va :: vb :: st) := by
  obtain ⟨p, l, e, R, s, m, args, below, meth, c, D, A⟩ := X
  intro H locs ls hP hD hS hl
  exact lv_dup_x1 hX.1 hX.2.1 d hva hvb (k H locs ls hP hD hS hl)
theorem g_dup2 (hX : CX X l0 D0 own nm cc nL rt rf rl mc ms) {va vb : Value} (d : decode cc pc = .ok (.dup2, 1)) (hva : va.category = 1) (hvb : vb.category = 1) (k : G X Q ws ce sl (pc + 1) L (va :: vb :: va :: vb :: st)) : G X Q ws ce sl pc L (va :: vb :: st) := by
  obtain ⟨p, l, e, R, s, m, args, below, meth, c, D, A⟩ := X
  intro H locs ls hP hD hS hl
  exact lv_dup2_11 hX.1 hX.2.1 d hva hvb (k H locs ls hP hD hS hl)
theorem g_iaddN (hX : CX X l0 D0 own nm cc nL rt rf rl mc ms) {a b : Nat} (d : decode cc pc = .ok (.iadd, 1)) (k : G X Q ws ce sl (pc + 1) L (.int (nI (a + b)) :: st)) : G X Q ws ce sl pc L (.int (nI b) :: .int (nI a) :: st) := g_iadd hX d (by rw [nI_add]; exact k)
theorem g_imulN (hX : CX X l0 D0 own nm cc nL rt rf rl mc ms) {a b : Nat} (d : decode cc pc = .ok (.imul, 1)) (k : G X Q ws ce sl (pc + 1) L (.int (nI (a * b)) :: st)) : G X Q ws ce sl pc L (.int (nI b) :: .int (nI a) :: st) := g_imul hX d (by rw [pk_mul]; exact k)
theorem g_isubN (hX : CX X l0 D0 own nm cc nL rt rf rl mc ms) {a b : Nat} (d : decode cc pc = .ok (.isub, 1)) (h : b ≤ a) (k : G X Q ws ce sl (pc + 1) L (.int (nI (a - b)) :: st)) : G X Q ws ce sl pc L (.int (nI b) :: .int (nI a) :: st) := g_isub hX d (by rw [pk_sub h]; exact k)
theorem g_idivN (hX : CX X l0 D0 own nm cc nL rt rf rl mc ms) {a b : Nat} (d : decode cc pc = .ok (.idiv, 1)) (h1 : a < 2147483648) (h2 : 0 < b) (h3 : b < 2147483648) (k : G X Q ws ce sl (pc + 1) L (.int (nI (a / b)) :: st)) : G X Q ws ce sl pc L (.int (nI b) :: .int (nI a) :: st) := g_idiv hX d (nI_ne0 h2 h3) (by rw [pk_div h1 h2 h3]; exact k)
theorem g_iremN (hX : CX X l0 D0 own nm cc nL rt rf rl mc ms) {a b : Nat} (d : decode cc pc = .ok (.irem, 1)) (h1 : a < 2147483648) (h2 : 0 < b) (h3 : b < 2147483648) (k : G X Q ws ce sl (pc + 1) L (.int (nI (a % b)) :: st)) : G X Q ws ce sl pc L (.int (nI b) :: .int (nI a) :: st) := g_irem hX d (nI_ne0 h2 h3) (by rw [pk_rem h1 h2 h3]; exact k)
theorem g_iincN (hX : CX X l0 D0 own nm cc nL rt rf rl mc ms) {j a : Nat} {L' : List (Option Value)} (d : decode cc pc = .ok (.iinc j 1, 3)) (hj : lgt L j = some (.int (nI a))) (hn : j < nL) (hl : ls1 L j (.int (nI (a + 1))) = L') (k : G X Q ws ce sl (pc + 3) L' st) : G X Q ws ce sl pc L st := g_iinc hX d hj (show nI a + 1 = nI (a + 1) from nI_1 a) hn hl k
theorem g_if_eq (hX : CX X l0 D0 own nm cc nL rt rf rl mc ms) {x : Int32} {off : Int} {tgt : Nat} (d : decode cc pc = .ok (.ifCond .eq off, 3)) (ht : (pc : Int) + off = (tgt : Int)) (kt : x = 0 → G X Q ws ce sl tgt L st) (kf : ¬ (x = 0) → G X Q ws ce sl (pc + 3) L st) : G X Q ws ce sl pc L (.int x :: st) := by
  obtain ⟨p, l, e, R, s, m, args, below, meth, c, D, A⟩ := X
  intro H locs ls hP hD hS hl
  exact lv_if_eq hX.1 hX.2.1 d ht (fun h => kt h H locs ls hP hD hS hl) (fun h => kf h H locs ls hP hD hS hl)
theorem g_icmp_eq (hX : CX X l0 D0 own nm cc nL rt rf rl mc ms) {x y : Int32} {off : Int} {tgt : Nat} (d : decode cc pc = .ok (.if_icmp .eq off, 3)) (ht : (pc : Int) + off = (tgt : Int)) (kt : x = y → G X Q ws ce sl tgt L st) (kf : ¬ (x = y) → G X Q ws ce sl (pc + 3) L st) : G X Q ws ce sl pc L (.int y :: .int x :: st) := by
  obtain ⟨p, l, e, R, s, m, args, below, meth, c, D, A⟩ := X
  intro H locs ls hP hD hS hl
  exact lv_icmp_eq hX.1 hX.2.1 d ht (fun h => kt h H locs ls hP hD hS hl) (fun h => kf h H locs ls hP hD hS hl)
theorem g_if_ne (hX : CX X l0 D0 own nm cc nL rt rf rl mc ms) {x : Int32} {off : Int} {tgt : Nat} (d : decode cc pc = .ok (.ifCond .ne off, 3)) (ht : (pc : Int) + off = (tgt : Int)) (kt : ¬ x = 0 → G X Q ws ce sl tgt L st) (kf : x = 0 → G X Q ws ce sl (pc + 3) L st) : G X Q ws ce sl pc L (.int x :: st) := by
  obtain ⟨p, l, e, R, s, m, args, below, meth, c, D, A⟩ := X
  intro H locs ls hP hD hS hl
  exact lv_if_ne hX.1 hX.2.1 d ht (fun h => kt h H locs ls hP hD hS hl) (fun h => kf h H locs ls hP hD hS hl)
theorem g_icmp_ne (hX : CX X l0 D0 own nm cc nL rt rf rl mc ms) {x y : Int32} {off : Int} {tgt : Nat} (d : decode cc pc = .ok (.if_icmp .ne off, 3)) (ht : (pc : Int) + off = (tgt : Int)) (kt : ¬ x = y → G X Q ws ce sl tgt L st) (kf : x = y → G X Q ws ce sl (pc + 3) L st) : G X Q ws ce sl pc L (.int y :: .int x :: st) := by
  obtain ⟨p, l, e, R, s, m, args, below, meth, c, D, A⟩ := X
  intro H locs ls hP hD hS hl
  exact lv_icmp_ne hX.1 hX.2.1 d ht (fun h => kt h H locs ls hP hD hS hl) (fun h => kf h H locs ls hP hD hS hl)
theorem g_if_lt (hX : CX X l0 D0 own nm cc nL rt rf rl mc ms) {x : Int32} {off : Int} {tgt : Nat} (d : decode cc pc = .ok (.ifCond .lt off, 3)) (ht : (pc : Int) + off = (tgt : Int)) (kt : x < 0 → G X Q ws ce sl tgt L st) (kf : ¬ (x < 0) → G X Q ws ce sl (pc + 3) L st) : G X Q ws ce sl pc L (.int x :: st) := by
  obtain ⟨p, l, e, R, s, m, args, below, meth, c, D, A⟩ := X
  intro H locs ls hP hD hS hl
  exact lv_if_lt hX.1 hX.2.1 d ht (fun h => kt h H locs ls hP hD hS hl) (fun h => kf h H locs ls hP hD hS hl)
theorem g_icmp_lt (hX : CX X l0 D0 own nm cc nL rt rf rl mc ms) {x y : Int32} {off : Int} {tgt : Nat} (d : decode cc pc = .ok (.if_icmp .lt off, 3)) (ht : (pc : Int) + off = (tgt : Int)) (kt : x < y → G X Q ws ce sl tgt L st) (kf : ¬ (x < y) → G X Q ws ce sl (pc + 3) L st) : G X Q ws ce sl pc L (.int y :: .int x :: st) := by
  obtain ⟨p, l, e, R, s, m, args, below, meth, c, D, A⟩ := X
  intro H locs ls hP hD hS hl
  exact lv_icmp_lt hX.1 hX.2.1 d ht (fun h => kt h H locs ls hP hD hS hl) (fun h => kf h H locs ls hP hD hS hl)
theorem g_if_ge (hX : CX X l0 D0 own nm cc nL rt rf rl mc ms) {x : Int32} {off : Int} {tgt : Nat} (d : decode cc pc = .ok (.ifCond .ge off, 3)) (ht : (pc : Int) + off = (tgt : Int)) (kt : 0 ≤ x → G X Q ws ce sl tgt L st) (kf : ¬ (0 ≤ x) → G X Q ws ce sl (pc + 3) L st) : G X Q ws ce sl pc L (.int x :: st) := by
  obtain ⟨p, l, e, R, s, m, args, below, meth, c, D, A⟩ := X
  intro H locs ls hP hD hS hl
  exact lv_if_ge hX.1 hX.2.1 d ht (fun h => kt h H locs ls hP hD hS hl) (fun h => kf h H locs ls hP hD hS hl)
theorem g_icmp_ge (hX : CX X l0 D0 own nm cc nL rt rf rl mc ms) {x y : Int32} {off : Int} {tgt : Nat} (d : decode cc pc = .ok (.if_icmp .ge off, 3)) (ht : (pc : Int) + off = (tgt : Int)) (kt : y ≤ x → G X Q ws ce sl tgt L st) (kf : ¬ (y ≤ x) → G X Q ws ce sl (pc + 3) L st) : G X Q ws ce sl pc L (.int y :: .int x :: st) := by
  obtain ⟨p, l, e, R, s, m, args, below, meth, c, D, A⟩ := X
  intro H locs ls hP hD hS hl
  exact lv_icmp_ge hX.1 hX.2.1 d ht (fun h => kt h H locs ls hP hD hS hl) (fun h => kf h H locs ls hP hD hS hl)
theorem g_if_gt (hX : CX X l0 D0 own nm cc nL rt rf rl mc ms) {x : Int32} {off : Int} {tgt : Nat} (d : decode cc pc = .ok (.ifCond .gt off, 3)) (ht : (pc : Int) + off = (tgt : Int)) (kt : 0 < x → G X Q ws ce sl tgt L st) (kf : ¬ (0 < x) → G X Q ws ce sl (pc + 3) L st) : G X Q ws ce sl pc L (.int x :: st) := by
  obtain ⟨p, l, e, R, s, m, args, below, meth, c, D, A⟩ := X
  intro H locs ls hP hD hS hl
  exact lv_if_gt hX.1 hX.2.1 d ht (fun h => kt h H locs ls hP hD hS hl) (fun h => kf h H locs ls hP hD hS hl)
theorem g_icmp_gt (hX : CX X l0 D0 own nm cc nL rt rf rl mc ms) {x y : Int32} {off : Int} {tgt : Nat} (d : decode cc pc = .ok (.if_icmp .gt off, 3)) (ht : (pc : Int) + off = (tgt : Int)) (kt : y < x → G X Q ws ce sl tgt L st) (kf : ¬ (y < x) → G X Q ws ce sl (pc + 3) L st) : G X Q ws ce sl pc L (.int y :: .int x :: st) := by
  obtain ⟨p, l, e, R, s, m, args, below, meth, c, D, A⟩ := X
  intro H locs ls hP hD hS hl
  exact lv_icmp_gt hX.1 hX.2.1 d ht (fun h => kt h H locs ls hP hD hS hl) (fun h => kf h H locs ls hP hD hS hl)
theorem g_if_le (hX : CX X l0 D0 own nm cc nL rt rf rl mc ms) {x : Int32} {off : Int} {tgt : Nat} (d : decode cc pc = .ok (.ifCond .le off, 3)) (ht : (pc : Int) + off = (tgt : Int)) (kt : x ≤ 0 → G X Q ws ce sl tgt L st) (kf : ¬ (x ≤ 0) → G X Q ws ce sl (pc + 3) L st) : G X Q ws ce sl pc L (.int x :: st) := by
  obtain ⟨p, l, e, R, s, m, args, below, meth, c, D, A⟩ := X
  intro H locs ls hP hD hS hl
  exact lv_if_le hX.1 hX.2.1 d ht (fun h => kt h H locs ls hP hD hS hl) (fun h => kf h H locs ls hP hD hS hl)
theorem g_icmp_le (hX : CX X l0 D0 own nm cc nL rt rf rl mc ms) {x y : Int32} {off : Int} {tgt : Nat} (d : decode cc pc = .ok (.if_icmp .le off, 3)) (ht : (pc : Int) + off = (tgt : Int)) (kt : x ≤ y → G X Q ws ce sl tgt L st) (kf : ¬ (x ≤ y) → G X Q ws ce sl (pc + 3) L st) : G X Q ws ce sl pc L (.int y :: .int x :: st) := by
  obtain ⟨p, l, e, R, s, m, args, below, meth, c, D, A⟩ := X
  intro H locs ls hP hD hS hl
  exact lv_icmp_le hX.1 hX.2.1 d ht (fun h => kt h H locs ls hP hD hS hl) (fun h => kf h H locs ls hP hD hS hl)
theorem g_icmpN_eq (hX : CX X l0 D0 own nm cc nL rt rf rl mc ms) {a b : Nat} {off : Int} {tgt : Nat} (d : decode cc pc = .ok (.if_icmp .eq off, 3)) (ht : (pc : Int) + off = (tgt : Int)) (ha : a < 2147483648) (hb : b < 2147483648) (kt : a = b → G X Q ws ce sl tgt L st) (kf : ¬ (a = b) → G X Q ws ce sl (pc + 3) L st) : G X Q ws ce sl pc L (.int (nI b) :: .int (nI a) :: st) :=
  g_icmp_eq hX d ht (fun h => kt ((nI_eq ha hb).mp h)) (fun h => kf (fun q => h ((nI_eq ha hb).mpr q)))
theorem g_icmpN_ne (hX : CX X l0 D0 own nm cc nL rt rf rl mc ms) {a b : Nat} {off : Int} {tgt : Nat} (d : decode cc pc = .ok (.if_icmp .ne off, 3)) (ht : (pc : Int) + off = (tgt : Int)) (ha : a < 2147483648) (hb : b < 2147483648) (kt : ¬ a = b → G X Q ws ce sl tgt L st) (kf : a = b → G X Q ws ce sl (pc + 3) L st) : G X Q ws ce sl pc L (.int (nI b) :: .int (nI a) :: st) :=
  g_icmp_ne hX d ht (fun h => kt (fun q => h ((nI_eq ha hb).mpr q))) (fun h => kf ((nI_eq ha hb).mp h))
theorem g_icmpN_lt (hX : CX X l0 D0 own nm cc nL rt rf rl mc ms) {a b : Nat} {off : Int} {tgt : Nat} (d : decode cc pc = .ok (.if_icmp .lt off, 3)) (ht : (pc : Int) + off = (tgt : Int)) (ha : a < 2147483648) (hb : b < 2147483648) (kt : a < b → G X Q ws ce sl tgt L st) (kf : ¬ (a < b) → G X Q ws ce sl (pc + 3) L st) : G X Q ws ce sl pc L (.int (nI b) :: .int (nI a) :: st) :=
  g_icmp_lt hX d ht (fun h => kt ((nI_ltI ha hb).mp h)) (fun h => kf (fun q => h ((nI_ltI ha hb).mpr q)))
theorem g_icmpN_ge (hX : CX X l0 D0 own nm cc nL rt rf rl mc ms) {a b : Nat} {off : Int} {tgt : Nat} (d : decode cc pc = .ok (.if_icmp .ge off, 3)) (ht : (pc : Int) + off = (tgt : Int)) (ha : a < 2147483648) (hb : b < 2147483648) (kt : b ≤ a → G X Q ws ce sl tgt L st) (kf : ¬ (b ≤ a) → G X Q ws ce sl (pc + 3) L st) : G X Q ws ce sl pc L (.int (nI b) :: .int (nI a) :: st) :=
  g_icmp_ge hX d ht (fun h => kt ((nI_leI hb ha).mp h)) (fun h => kf (fun q => h ((nI_leI hb ha).mpr q)))
theorem g_icmpN_gt (hX : CX X l0 D0 own nm cc nL rt rf rl mc ms) {a b : Nat} {off : Int} {tgt : Nat} (d : decode cc pc = .ok (.if_icmp .gt off, 3)) (ht : (pc : Int) + off = (tgt : Int)) (ha : a < 2147483648) (hb : b < 2147483648) (kt : b < a → G X Q ws ce sl tgt L st) (kf : ¬ (b < a) → G X Q ws ce sl (pc + 3) L st) : G X Q ws ce sl pc L (.int (nI b) :: .int (nI a) :: st) :=
  g_icmp_gt hX d ht (fun h => kt ((nI_ltI hb ha).mp h)) (fun h => kf (fun q => h ((nI_ltI hb ha).mpr q)))
theorem g_icmpN_le (hX : CX X l0 D0 own nm cc nL rt rf rl mc ms) {a b : Nat} {off : Int} {tgt : Nat} (d : decode cc pc = .ok (.if_icmp .le off, 3)) (ht : (pc : Int) + off = (tgt : Int)) (ha : a < 2147483648) (hb : b < 2147483648) (kt : a ≤ b → G X Q ws ce sl tgt L st) (kf : ¬ (a ≤ b) → G X Q ws ce sl (pc + 3) L st) : G X Q ws ce sl pc L (.int (nI b) :: .int (nI a) :: st) :=
  g_icmp_le hX d ht (fun h => kt ((nI_leI ha hb).mp h)) (fun h => kf (fun q => h ((nI_leI ha hb).mpr q)))
theorem g_goto (hX : CX X l0 D0 own nm cc nL rt rf rl mc ms) {off : Int} {tgt : Nat} (d : decode cc pc = .ok (.goto off, 3)) (ht : (pc : Int) + off = (tgt : Int)) (k : G X Q ws ce sl tgt L st) : G X Q ws ce sl pc L st := by
  obtain ⟨p, l, e, R, s, m, args, below, meth, c, D, A⟩ := X
  intro H locs ls hP hD hS hl
  exact lv_goto hX.1 hX.2.1 d ht (k H locs ls hP hD hS hl)
theorem g_tswj (hX : CX X l0 D0 own nm cc nL rt rf rl mc ms) {x : Int32} {dflt lo hi : Int} {offs : Array Int} {len : Nat} (d : decode cc pc = .ok (.tableswitch dflt lo hi offs, len)) (j : Nat) (hx : x.toInt = lo + j) (hj : lo + j ≤ hi) {off : Int} {tgt : Nat} (ho : offs[j]? = some off) (ht : (pc : Int) + off = (tgt : Int)) (k : G X Q ws ce sl tgt L st) : G X Q ws ce sl pc L (.int x :: st) := by
  obtain ⟨p, l, e, R, s, m, args, below, meth, c, D, A⟩ := X
  intro H locs ls hP hD hS hl
  exact lv_tableIn hX.1 hX.2.1 d (by omega) (by omega) (by rw [show (x.toInt - lo).toNat = j by omega]; exact ho) ht (k H locs ls hP hD hS hl)
theorem g_tswo (hX : CX X l0 D0 own nm cc nL rt rf rl mc ms) {x : Int32} {dflt lo hi : Int} {offs : Array Int} {len : Nat} (d : decode cc pc = .ok (.tableswitch dflt lo hi offs, len)) (hx : x.toInt < lo ∨ hi < x.toInt) {tgt : Nat} (ht : (pc : Int) + dflt = (tgt : Int)) (k : G X Q ws ce sl tgt L st) : G X Q ws ce sl pc L (.int x :: st) := by
  obtain ⟨p, l, e, R, s, m, args, below, meth, c, D, A⟩ := X
  intro H locs ls hP hD hS hl
  exact lv_tableOut hX.1 hX.2.1 d hx ht (k H locs ls hP hD hS hl)
theorem g_lsw (hX : CX X l0 D0 own nm cc nL rt rf rl mc ms) {x : Int32} {dflt : Int} {ps : Array (Int × Int)} {len : Nat} (d : decode cc pc = .ok (.lookupswitch dflt ps, len)) (hp : (ps.toList.zip (ps.toList.drop 1)).all (fun (a, next) => a.1 < next.1) = true) {off : Int} {tgt : Nat} (ho : Op.lookupswitch.offset ps.toList dflt x.toInt = off) (ht : (pc : Int) + off = (tgt : Int)) (k : G X Q ws ce sl tgt L st) : G X Q ws ce sl pc L (.int x :: st) := by
  obtain ⟨p, l, e, R, s, m, args, below, meth, c, D, A⟩ := X
  intro H locs ls hP hD hS hl
  exact lv_lookup hX.1 hX.2.1 d hp ho ht (k H locs ls hP hD hS hl)
end GR
