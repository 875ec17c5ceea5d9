/-! rows of the heap -/
theorem LH.size {ls : Array Slot} {n : Nat} {L : List (Option Value)} (h : LH ls n L) : ls.size = n := h.1
section GH
variable {X : CT} {l0 : Launch} {D0 : va_G} {own nm : String} {cc : ByteArray} {nL : Nat} {rt : Option FieldType} {rf rl mc ms : Nat} {Q : State → Prop} {ws : va_W} {ce sl pc : Nat} {L : List (Option Value)} {st : List Value}
/-- a class's own words, as a program decides them -/
def CK (ci : Nat) (C : String) (T : u_T) (N : Nat) (ty : Nat → FieldType) : Prop := vwCl[ci]? = some (C, T, N) ∧ (∀ w ∈ u_ws C T N, w ∈ TB) ∧ (∀ k, k < N → parseFieldDescriptor (T k).2.2.1 = some (ty k)) ∧ (∀ a, a < N → ∀ b, b < N → a ≠ b → (T a).2.1 ≠ (T b).2.1)
/-- a field: its class, its place -/
def FK (own : String) (idx ci k : Nat) : Prop := ∃ (C : String) (T : u_T) (N : Nat) (ty : Nat → FieldType), CK ci C T N ty ∧ k < N ∧ (Cond.fieldLink own idx (T k).1 (T k).2.1 (T k).2.2.1 ∈ TB ∨ (own, idx, (T k).1, (T k).2.1, (T k).2.2.1) ∈ NFl)
/-- a field that may be written: not final, with its type -/
def FP (own : String) (idx ci k : Nat) (t : FieldType) : Prop := ∃ (C : String) (T : u_T) (N : Nat) (ty : Nat → FieldType), CK ci C T N ty ∧ k < N ∧ (T k).2.2.2 = false ∧ ty k = t ∧ (Cond.fieldLink own idx (T k).1 (T k).2.1 (T k).2.2.1 ∈ TB ∨ (own, idx, (T k).1, (T k).2.1, (T k).2.2.1) ∈ NFl)
/-- a final field of the class itself -/
def FF (own : String) (idx ci k : Nat) (t : FieldType) : Prop := ∃ (C : String) (T : u_T) (N : Nat) (ty : Nat → FieldType), CK ci C T N ty ∧ k < N ∧ (T k).2.2.2 = true ∧ (T k).1 = own ∧ ty k = t ∧ Cond.fieldLink own idx (T k).1 (T k).2.1 (T k).2.2.1 ∈ TB
theorem g_getf (hX : CX X l0 D0 own nm cc nL rt rf rl mc ms) {idx ci k a : Nat} {fs : List Value} {v : Value} (d : decode cc pc = .ok (.getfield idx, 3)) (hf : FK own idx ci k) (q : Nat) (he : ws[q]? = some (a, .inr (ci, fs))) (hv : fs[k]? = some v) (kk : G X Q ws ce sl (pc + 3) L (v :: st)) : G X Q ws ce sl pc L (.ref a :: st) := by
  obtain ⟨C, T, N, ty, ⟨hc, hin, hty, hnm⟩, hk, hl⟩ := hf
  obtain ⟨p, l, e, R, s, m, args, below, meth, c, D, A⟩ := X
  intro H locs ls hP hD hS h
  rcases hl with hl | hl
  · exact va_get (C := C) (T := T) (N := N) hX.1 hX.2.1 hX.2.2.2.2.1 hin hX.2.2.2.1 hX.2.2.2.2.2.1 hP q he hc k hk (hX.2.2.2.2.1 _ hl) (fun _ h9 => h9) hv d (kk H locs ls hP hD hS h)
  · exact va_getN (C := C) (T := T) (N := N) hX.1 hX.2.1 hX.2.2.2.2.1 hin hX.2.2.2.1 hX.2.2.2.2.2.1 hP q he hc k hk ((hX.2.2.2.2.2.2.2.2.2.2.1.1 _ hl).use rfl) (fun _ h9 => h9) hv d (kk H locs ls hP hD hS h)
theorem g_putf (hX : CX X l0 D0 own nm cc nL rt rf rl mc ms) {idx ci k a : Nat} {fs : List Value} {v : Value} {t : FieldType} {ws' : va_W} (d : decode cc pc = .ok (.putfield idx, 3)) (hf : FP own idx ci k t) (q : Nat) (he : ws[q]? = some (a, .inr (ci, fs))) (hl : k < fs.length) (hn : narrow t v = v) (hfit : fits t v = true) (hw : ws.set q (a, .inr (ci, fs.set k v)) = ws') (kk : G X Q ws' ce sl (pc + 3) L st) : G X Q ws ce sl pc L (v :: .ref a :: st) := by
  subst hw
  obtain ⟨C, T, N, ty, ⟨hc, hin, hty, hnm⟩, hk, hfin, htk, hlk⟩ := hf
  subst htk
  obtain ⟨p, l, e, R, s, m, args, below, meth, c, D, A⟩ := X
  intro H locs ls hP hD hS h
  rcases hlk with hlk | hlk
  · exact va_put (C := C) (T := T) (N := N) hX.1 hX.2.1 hX.2.2.2.2.1 hin ty hty hnm hX.2.2.2.1 hX.2.2.2.2.2.1 hP hD hS q he hc k hk (hX.2.2.2.2.1 _ hlk) (fun _ h9 => h9) hfin (hty k hk) hn hfit hl d (fun H1 locs1 hP1 hD1 hS1 => kk H1 locs1 ls hP1 hD1 hS1 h)
  · exact va_putN (C := C) (T := T) (N := N) hX.1 hX.2.1 hX.2.2.2.2.1 hin ty hty hnm hX.2.2.2.1 hX.2.2.2.2.2.1 hP hD hS q he hc k hk ((hX.2.2.2.2.2.2.2.2.2.2.1.1 _ hlk).use rfl) (fun _ h9 => h9) hfin (hty k hk) hn hfit hl d (fun H1 locs1 hP1 hD1 hS1 => kk H1 locs1 ls hP1 hD1 hS1 h)
theorem g_puti (hX : CX X l0 D0 own nm cc nL rt rf rl mc ms) {idx ci k a : Nat} {fs : List Value} {v : Int32} {ws' : va_W} (d : decode cc pc = .ok (.putfield idx, 3)) (hf : FP own idx ci k .int) (q : Nat) (he : ws[q]? = some (a, .inr (ci, fs))) (hl : k < fs.length) (hw : ws.set q (a, .inr (ci, fs.set k (.int v))) = ws') (kk : G X Q ws' ce sl (pc + 3) L st) : G X Q ws ce sl pc L (.int v :: .ref a :: st) := g_putf hX d hf q he hl rfl rfl hw kk
theorem g_putF (hX : CX X l0 D0 own "<init>" cc nL rt rf rl mc ms) {idx ci k a : Nat} {fs : List Value} {v : Value} {t : FieldType} {ws' : va_W} (d : decode cc pc = .ok (.putfield idx, 3)) (hf : FF own idx ci k t) (q : Nat) (he : ws[q]? = some (a, .inr (ci, fs))) (hl : k < fs.length) (hn : narrow t v = v) (hfit : fits t v = true) (hw : ws.set q (a, .inr (ci, fs.set k v)) = ws') (kk : G X Q ws' ce sl (pc + 3) L st) : G X Q ws ce sl pc L (v :: .ref a :: st) := by
  subst hw
  obtain ⟨C, T, N, ty, ⟨hc, hin, hty, hnm⟩, hk, hfin, hown, htk, hlk⟩ := hf
  subst htk
  obtain ⟨p, l, e, R, s, m, args, below, meth, c, D, A⟩ := X
  intro H locs ls hP hD hS h
  exact va_putF (C := C) (T := T) (N := N) hX.1 hX.2.1 hX.2.2.2.2.1 hin ty hty hnm hX.2.2.2.1 hX.2.2.2.2.2.1 hP hD hS q he hc k hk (hX.2.2.2.2.1 _ hlk) (fun _ h9 => h9) hfin hX.2.2.2.2.2.2.2.2.2.1 hown (hty k hk) hn hfit hl d (fun H1 locs1 hP1 hD1 hS1 => kk H1 locs1 ls hP1 hD1 hS1 h)
/-! arrays of ints, chars, booleans, bytes -/
theorem vp_inN {n N : Nat} (h : n < N) (hN : N < 2147483648) : vp_in (nI n) N := vp_in_nI h hN
theorem g_iald (hX : CX X l0 D0 own nm cc nL rt rf rl mc ms) {a n N : Nat} {f : Nat → Int32} (d : decode cc pc = .ok (.iaload, 1)) (q : Nat) (he : ws[q]? = some (a, .inl (D0.1 100, N, .inl f))) (hN : N < 2147483648) (hn : n < N) (kk : G X Q ws ce sl (pc + 1) L (.int (f n) :: st)) : G X Q ws ce sl pc L (.int (nI n) :: .ref a :: st) := by
  obtain ⟨p, l, e, R, s, m, args, below, meth, c, D, A⟩ := X
  obtain rfl : D = D0 := hX.2.2.2.2.2.2.2.2.2.2.2.2.2.2.2.2
  intro H locs ls hP hD hS h
  have kk := kk H locs ls hP hD hS h
  rw [← nI_clamp (n := n) (by omega)] at kk
  exact va_iald hX.1 hX.2.1 hX.2.2.2.2.2.1 hP q 0 he rfl (vp_inN hn hN) d kk
theorem g_cald (hX : CX X l0 D0 own nm cc nL rt rf rl mc ms) {a n N : Nat} {f : Nat → Int32} (d : decode cc pc = .ok (.caload, 1)) (q : Nat) (he : ws[q]? = some (a, .inl (D0.1 101, N, .inl f))) (hN : N < 2147483648) (hn : n < N) (kk : G X Q ws ce sl (pc + 1) L (.int (f n) :: st)) : G X Q ws ce sl pc L (.int (nI n) :: .ref a :: st) := by
  obtain ⟨p, l, e, R, s, m, args, below, meth, c, D, A⟩ := X
  obtain rfl : D = D0 := hX.2.2.2.2.2.2.2.2.2.2.2.2.2.2.2.2
  intro H locs ls hP hD hS h
  have kk := kk H locs ls hP hD hS h
  rw [← nI_clamp (n := n) (by omega)] at kk
  exact va_cald hX.1 hX.2.1 hX.2.2.2.2.2.1 hP q 1 he rfl (vp_inN hn hN) d kk
theorem g_zald (hX : CX X l0 D0 own nm cc nL rt rf rl mc ms) {a n N : Nat} {f : Nat → Int32} (d : decode cc pc = .ok (.baload, 1)) (q : Nat) (he : ws[q]? = some (a, .inl (D0.1 102, N, .inl f))) (hN : N < 2147483648) (hn : n < N) (kk : G X Q ws ce sl (pc + 1) L (.int (f n) :: st)) : G X Q ws ce sl pc L (.int (nI n) :: .ref a :: st) := by
  obtain ⟨p, l, e, R, s, m, args, below, meth, c, D, A⟩ := X
  obtain rfl : D = D0 := hX.2.2.2.2.2.2.2.2.2.2.2.2.2.2.2.2
  intro H locs ls hP hD hS h
  have kk := kk H locs ls hP hD hS h
  rw [← nI_clamp (n := n) (by omega)] at kk
  exact va_zald hX.1 hX.2.1 hX.2.2.2.2.2.1 hP q 2 he rfl (vp_inN hn hN) d kk
theorem g_bald (hX : CX X l0 D0 own nm cc nL rt rf rl mc ms) {a n N : Nat} {f : Nat → Int32} (d : decode cc pc = .ok (.baload, 1)) (q : Nat) (he : ws[q]? = some (a, .inl (D0.1 104, N, .inl f))) (hN : N < 2147483648) (hn : n < N) (kk : G X Q ws ce sl (pc + 1) L (.int (f n) :: st)) : G X Q ws ce sl pc L (.int (nI n) :: .ref a :: st) := by
  obtain ⟨p, l, e, R, s, m, args, below, meth, c, D, A⟩ := X
  obtain rfl : D = D0 := hX.2.2.2.2.2.2.2.2.2.2.2.2.2.2.2.2
  intro H locs ls hP hD hS h
  have kk := kk H locs ls hP hD hS h
  rw [← nI_clamp (n := n) (by omega)] at kk
  exact va_bald hX.1 hX.2.1 hX.2.2.2.2.2.1 hP q 4 he rfl (vp_inN hn hN) d kk
theorem g_iast (hX : CX X l0 D0 own nm cc nL rt rf rl mc ms) {a n N : Nat} {f : Nat → Int32} {x : Int32} {ws' : va_W} (d : decode cc pc = .ok (.iastore, 1)) (q : Nat) (he : ws[q]? = some (a, .inl (D0.1 100, N, .inl f))) (hN : N < 2147483648) (hn : n < N) (hw : ws.set q (a, .inl (D0.1 100, N, .inl (upd f n x))) = ws') (kk : G X Q ws' ce sl (pc + 1) L st) : G X Q ws ce sl pc L (.int x :: .int (nI n) :: .ref a :: st) := by
  subst hw
  obtain ⟨p, l, e, R, s, m, args, below, meth, c, D, A⟩ := X
  obtain rfl : D = D0 := hX.2.2.2.2.2.2.2.2.2.2.2.2.2.2.2.2
  intro H locs ls hP hD hS h
  refine va_iast hX.1 hX.2.1 hX.2.2.2.2.2.1 hP hD hS q 0 he rfl (vp_inN hn hN) d (fun H1 locs1 hP1 hD1 hS1 => ?_)
  rw [nI_clamp (n := n) (by omega)] at hP1 hD1
  exact kk H1 locs1 ls hP1 hD1 hS1 h
theorem g_cast (hX : CX X l0 D0 own nm cc nL rt rf rl mc ms) {a n N : Nat} {f : Nat → Int32} {x y : Int32} {ws' : va_W} (d : decode cc pc = .ok (.castore, 1)) (q : Nat) (he : ws[q]? = some (a, .inl (D0.1 101, N, .inl f))) (hN : N < 2147483648) (hn : n < N) (hy : vp_nar .char x = y) (hw : ws.set q (a, .inl (D0.1 101, N, .inl (upd f n y))) = ws') (kk : G X Q ws' ce sl (pc + 1) L st) : G X Q ws ce sl pc L (.int x :: .int (nI n) :: .ref a :: st) := by
  subst hw; subst hy
  obtain ⟨p, l, e, R, s, m, args, below, meth, c, D, A⟩ := X
  obtain rfl : D = D0 := hX.2.2.2.2.2.2.2.2.2.2.2.2.2.2.2.2
  intro H locs ls hP hD hS h
  refine va_cast hX.1 hX.2.1 hX.2.2.2.2.2.1 hP hD hS q 1 he rfl (vp_inN hn hN) d (fun H1 locs1 hP1 hD1 hS1 => ?_)
  rw [nI_clamp (n := n) (by omega)] at hP1 hD1
  exact kk H1 locs1 ls hP1 hD1 hS1 h
theorem g_zast (hX : CX X l0 D0 own nm cc nL rt rf rl mc ms) {a n N : Nat} {f : Nat → Int32} {x y : Int32} {ws' : va_W} (d : decode cc pc = .ok (.bastore, 1)) (q : Nat) (he : ws[q]? = some (a, .inl (D0.1 102, N, .inl f))) (hN : N < 2147483648) (hn : n < N) (hy : vp_nar .boolean x = y) (hw : ws.set q (a, .inl (D0.1 102, N, .inl (upd f n y))) = ws') (kk : G X Q ws' ce sl (pc + 1) L st) : G X Q ws ce sl pc L (.int x :: .int (nI n) :: .ref a :: st) := by
  subst hw; subst hy
  obtain ⟨p, l, e, R, s, m, args, below, meth, c, D, A⟩ := X
  obtain rfl : D = D0 := hX.2.2.2.2.2.2.2.2.2.2.2.2.2.2.2.2
  intro H locs ls hP hD hS h
  refine va_zast hX.1 hX.2.1 hX.2.2.2.2.2.1 hP hD hS q 2 he rfl (vp_inN hn hN) d (fun H1 locs1 hP1 hD1 hS1 => ?_)
  rw [nI_clamp (n := n) (by omega)] at hP1 hD1
  exact kk H1 locs1 ls hP1 hD1 hS1 h
theorem g_bast (hX : CX X l0 D0 own nm cc nL rt rf rl mc ms) {a n N : Nat} {f : Nat → Int32} {x y : Int32} {ws' : va_W} (d : decode cc pc = .ok (.bastore, 1)) (q : Nat) (he : ws[q]? = some (a, .inl (D0.1 104, N, .inl f))) (hN : N < 2147483648) (hn : n < N) (hy : vp_nar .byte x = y) (hw : ws.set q (a, .inl (D0.1 104, N, .inl (upd f n y))) = ws') (kk : G X Q ws' ce sl (pc + 1) L st) : G X Q ws ce sl pc L (.int x :: .int (nI n) :: .ref a :: st) := by
  subst hw; subst hy
  obtain ⟨p, l, e, R, s, m, args, below, meth, c, D, A⟩ := X
  obtain rfl : D = D0 := hX.2.2.2.2.2.2.2.2.2.2.2.2.2.2.2.2
  intro H locs ls hP hD hS h
  refine va_bast hX.1 hX.2.1 hX.2.2.2.2.2.1 hP hD hS q 4 he rfl (vp_inN hn hN) d (fun H1 locs1 hP1 hD1 hS1 => ?_)
  rw [nI_clamp (n := n) (by omega)] at hP1 hD1
  exact kk H1 locs1 ls hP1 hD1 hS1 h
theorem g_aald (hX : CX X l0 D0 own nm cc nL rt rf rl mc ms) {a n N : Nat} {f : Nat → Option Nat} {v : Nat} (d : decode cc pc = .ok (.aaload, 1)) (q : Nat) (he : ws[q]? = some (a, .inl (D0.1 103, N, .inr (.inr (.inr (.inr f)))))) (hN : N < 2147483648) (hn : n < N) (hv : f n = some v) (kk : G X Q ws ce sl (pc + 1) L (.ref v :: st)) : G X Q ws ce sl pc L (.int (nI n) :: .ref a :: st) := by
  obtain ⟨p, l, e, R, s, m, args, below, meth, c, D, A⟩ := X
  obtain rfl : D = D0 := hX.2.2.2.2.2.2.2.2.2.2.2.2.2.2.2.2
  intro H locs ls hP hD hS h
  have kk := kk H locs ls hP hD hS h
  refine va_aldq hX.1 hX.2.1 hX.2.2.2.2.2.1 hP q 3 he rfl (vp_inN hn hN) d ?_
  rw [nI_clamp (n := n) (by omega), hv]
  exact kk
theorem g_aast (hX : CX X l0 D0 own nm cc nL rt rf rl mc ms) {a n N v : Nat} {f : Nat → Option Nat} {vs : List Value} {ws' : va_W} (d : decode cc pc = .ok (.aastore, 1)) (q qk : Nat) (he : ws[q]? = some (a, .inl (D0.1 103, N, .inr (.inr (.inr (.inr f)))))) (hv : ws[qk]? = some (v, .inr (6, vs))) (hN : N < 2147483648) (hn : n < N) (hw : ws.set q (a, .inl (D0.1 103, N, .inr (.inr (.inr (.inr (va_up f n (some v))))))) = ws') (kk : G X Q ws' ce sl (pc + 1) L st) : G X Q ws ce sl pc L (.ref v :: .int (nI n) :: .ref a :: st) := by
  subst hw
  obtain ⟨p, l, e, R, s, m, args, below, meth, c, D, A⟩ := X
  obtain rfl : D = D0 := hX.2.2.2.2.2.2.2.2.2.2.2.2.2.2.2.2
  intro H locs ls hP hD hS h
  refine va_astq hX.1 hX.2.1 hX.2.2.2.2.2.1 hP hD hS q 3 qk 6 (r := (RX5, TX5, 6)) he rfl hv rfl (vp_inN hn hN) d (fun H1 locs1 hP1 hD1 hS1 => ?_)
  rw [nI_clamp (n := n) (by omega)] at hP1 hD1
  exact kk H1 locs1 ls hP1 hD1 hS1 h
theorem g_aleni (hX : CX X l0 D0 own nm cc nL rt rf rl mc ms) {a N : Nat} {f : Nat → Int32} (d : decode cc pc = .ok (.arraylength, 1)) (q : Nat) (he : ws[q]? = some (a, .inl (D0.1 100, N, .inl f))) (kk : G X Q ws ce sl (pc + 1) L (.int (nI N) :: st)) : G X Q ws ce sl pc L (.ref a :: st) := by
  obtain ⟨p, l, e, R, s, m, args, below, meth, c, D, A⟩ := X
  obtain rfl : D = D0 := hX.2.2.2.2.2.2.2.2.2.2.2.2.2.2.2.2
  intro H locs ls hP hD hS h
  exact va_alen hX.1 hX.2.1 hX.2.2.2.2.2.1 hP q 0 he (ty := .int) rfl (v := nI N) rfl d (kk H locs ls hP hD hS h)
theorem g_alenb (hX : CX X l0 D0 own nm cc nL rt rf rl mc ms) {a N : Nat} {f : Nat → Int32} (d : decode cc pc = .ok (.arraylength, 1)) (q : Nat) (he : ws[q]? = some (a, .inl (D0.1 104, N, .inl f))) (kk : G X Q ws ce sl (pc + 1) L (.int (nI N) :: st)) : G X Q ws ce sl pc L (.ref a :: st) := by
  obtain ⟨p, l, e, R, s, m, args, below, meth, c, D, A⟩ := X
  obtain rfl : D = D0 := hX.2.2.2.2.2.2.2.2.2.2.2.2.2.2.2.2
  intro H locs ls hP hD hS h
  exact va_alen hX.1 hX.2.1 hX.2.2.2.2.2.1 hP q 4 he (ty := .byte) rfl (v := nI N) rfl d (kk H locs ls hP hD hS h)
/-! making -/
theorem g_newi (hX : CX X l0 D0 own nm cc nL rt rf rl mc ms) {N : Nat} (d : decode cc pc = .ok (.newarray .int, 2)) (hw : Cond.arrayClass .int ∈ TB) (hN : N ≤ 100000) (hce : ce + 1 ≤ mc) (hsl : sl + N ≤ ms) (kk : ∀ q : Nat, G X Q (ws ++ [(q, .inl (D0.1 100, N, .inl (fun _ => 0)))]) (ce + 1) (sl + N) (pc + 2) L (.ref q :: st)) : G X Q ws ce sl pc L (.int (nI N) :: st) := by
  obtain ⟨p, l, e, R, s, m, args, below, meth, c, D, A⟩ := X
  obtain rfl : D = D0 := hX.2.2.2.2.2.2.2.2.2.2.2.2.2.2.2.2
  obtain ⟨hx, hb, hml, hown, hts, hK, hA, -, -, -, -, -, -, hc1, hs1, -, -⟩ := hX
  intro H locs ls hP hD hS h
  refine va_newa (atype := .int) (ty := .int) (a0 := (N, .inl (fun _ => 0))) hx hb (hts _ hw) rfl hK hP hD hS hA (fun _ => rfl) (nI_pos (by omega)) (nI_clamp (by omega)) (by show N * 4 ≤ _; omega) (by omega) (by omega) d (fun q cA H1 hK1 hP1 hD1 hS1 => ?_)
  have e1 : cA = D.1 100 := by
    have a1 := (hK1.2 5 _ rfl).2
    have a2 := (hK.2 0 _ rfl).2
    exact Option.some.inj (Eq.trans (Eq.symm a1) a2)
  subst e1
  exact kk q H1 locs ls hP1 hD1 hS1 h
theorem g_newc (hX : CX X l0 D0 own nm cc nL rt rf rl mc ms) {N : Nat} (d : decode cc pc = .ok (.newarray .char, 2)) (hw : Cond.arrayClass .char ∈ TB) (hN : N ≤ 100000) (hce : ce + 1 ≤ mc) (hsl : sl + N ≤ ms) (kk : ∀ q : Nat, G X Q (ws ++ [(q, .inl (D0.1 101, N, .inl (fun _ => 0)))]) (ce + 1) (sl + N) (pc + 2) L (.ref q :: st)) : G X Q ws ce sl pc L (.int (nI N) :: st) := by
  obtain ⟨p, l, e, R, s, m, args, below, meth, c, D, A⟩ := X
  obtain rfl : D = D0 := hX.2.2.2.2.2.2.2.2.2.2.2.2.2.2.2.2
  obtain ⟨hx, hb, hml, hown, hts, hK, hA, -, -, -, -, -, -, hc1, hs1, -, -⟩ := hX
  intro H locs ls hP hD hS h
  refine va_newa (atype := .char) (ty := .char) (a0 := (N, .inl (fun _ => 0))) hx hb (hts _ hw) rfl hK hP hD hS hA (fun _ => rfl) (nI_pos (by omega)) (nI_clamp (by omega)) (by show N * 2 ≤ _; omega) (by omega) (by omega) d (fun q cA H1 hK1 hP1 hD1 hS1 => ?_)
  have e1 : cA = D.1 101 := by
    have a1 := (hK1.2 5 _ rfl).2
    have a2 := (hK.2 1 _ rfl).2
    exact Option.some.inj (Eq.trans (Eq.symm a1) a2)
  subst e1
  exact kk q H1 locs ls hP1 hD1 hS1 h
theorem g_newz (hX : CX X l0 D0 own nm cc nL rt rf rl mc ms) {N : Nat} (d : decode cc pc = .ok (.newarray .boolean, 2)) (hw : Cond.arrayClass .boolean ∈ TB) (hN : N ≤ 100000) (hce : ce + 1 ≤ mc) (hsl : sl + N ≤ ms) (kk : ∀ q : Nat, G X Q (ws ++ [(q, .inl (D0.1 102, N, .inl (fun _ => 0)))]) (ce + 1) (sl + N) (pc + 2) L (.ref q :: st)) : G X Q ws ce sl pc L (.int (nI N) :: st) := by
  obtain ⟨p, l, e, R, s, m, args, below, meth, c, D, A⟩ := X
  obtain rfl : D = D0 := hX.2.2.2.2.2.2.2.2.2.2.2.2.2.2.2.2
  obtain ⟨hx, hb, hml, hown, hts, hK, hA, -, -, -, -, -, -, hc1, hs1, -, -⟩ := hX
  intro H locs ls hP hD hS h
  refine va_newa (atype := .boolean) (ty := .boolean) (a0 := (N, .inl (fun _ => 0))) hx hb (hts _ hw) rfl hK hP hD hS hA (fun _ => rfl) (nI_pos (by omega)) (nI_clamp (by omega)) (by show N * 1 ≤ _; omega) (by omega) (by omega) d (fun q cA H1 hK1 hP1 hD1 hS1 => ?_)
  have e1 : cA = D.1 102 := by
    have a1 := (hK1.2 5 _ rfl).2
    have a2 := (hK.2 2 _ rfl).2
    exact Option.some.inj (Eq.trans (Eq.symm a1) a2)
  subst e1
  exact kk q H1 locs ls hP1 hD1 hS1 h
theorem g_newb (hX : CX X l0 D0 own nm cc nL rt rf rl mc ms) {N : Nat} (d : decode cc pc = .ok (.newarray .byte, 2)) (hw : Cond.arrayClass .byte ∈ TB) (hN : N ≤ 100000) (hce : ce + 1 ≤ mc) (hsl : sl + N ≤ ms) (kk : ∀ q : Nat, G X Q (ws ++ [(q, .inl (D0.1 104, N, .inl (fun _ => 0)))]) (ce + 1) (sl + N) (pc + 2) L (.ref q :: st)) : G X Q ws ce sl pc L (.int (nI N) :: st) := by
  obtain ⟨p, l, e, R, s, m, args, below, meth, c, D, A⟩ := X
  obtain rfl : D = D0 := hX.2.2.2.2.2.2.2.2.2.2.2.2.2.2.2.2
  obtain ⟨hx, hb, hml, hown, hts, hK, hA, -, -, -, -, -, -, hc1, hs1, -, -⟩ := hX
  intro H locs ls hP hD hS h
  refine va_newa (atype := .byte) (ty := .byte) (a0 := (N, .inl (fun _ => 0))) hx hb (hts _ hw) rfl hK hP hD hS hA (fun _ => rfl) (nI_pos (by omega)) (nI_clamp (by omega)) (by show N * 1 ≤ _; omega) (by omega) (by omega) d (fun q cA H1 hK1 hP1 hD1 hS1 => ?_)
  have e1 : cA = D.1 104 := by
    have a1 := (hK1.2 5 _ rfl).2
    have a2 := (hK.2 4 _ rfl).2
    exact Option.some.inj (Eq.trans (Eq.symm a1) a2)
  subst e1
  exact kk q H1 locs ls hP1 hD1 hS1 h
theorem g_newq (hX : CX X l0 D0 own nm cc nL rt rf rl mc ms) {N idx : Nat} (d : decode cc pc = .ok (.anewarray idx, 3)) (hw : Cond.classLink own idx "SightSpacing$State" ∈ TB) (hN : N ≤ 100000) (hce : ce + 1 ≤ mc) (hsl : sl + N ≤ ms) (kk : ∀ q : Nat, G X Q (ws ++ [(q, .inl (D0.1 103, N, .inr (.inr (.inr (.inr (fun _ => none))))))]) (ce + 1) (sl + N) (pc + 3) L (.ref q :: st)) : G X Q ws ce sl pc L (.int (nI N) :: st) := by
  obtain ⟨p, l, e, R, s, m, args, below, meth, c, D, A⟩ := X
  obtain rfl : D = D0 := hX.2.2.2.2.2.2.2.2.2.2.2.2.2.2.2.2
  obtain ⟨hx, hb, hml, hown, hts, hK, hA, -, -, -, hRO, -, -, hc1, hs1, -, -⟩ := hX
  intro H locs ls hP hD hS h
  refine va_newq hx hb hown (hts _ hw) hRO.2.2.1.1 hK hP hD hS hA (N' := N) (nI_pos (by omega)) (nI_clamp (by omega)) (by omega) (by omega) (by omega) d (fun q cA H1 hK1 hP1 hD1 hS1 => ?_)
  have e1 : cA = D.1 103 := by
    obtain ⟨k1, c1, -, -, -, a1⟩ := (hK1.2 5 _ rfl).2
    obtain ⟨k2, c2, -, -, -, a2⟩ := (hK.2 3 _ rfl).2
    exact Option.some.inj (Eq.trans (Eq.symm a1) a2)
  subst e1
  exact kk q H1 locs ls hP1 hD1 hS1 h
theorem g_new (hX : CX X l0 D0 own nm cc nL rt rf rl mc ms) {idx ci N : Nat} {C : String} {T : u_T} {ty : Nat → FieldType} {fs : List Value} (d : decode cc pc = .ok (.new idx, 3)) (hk : CK ci C T N ty) (hw1 : Cond.classLink own idx C ∈ TB) (hw2 : Cond.instantiable C N ∈ TB) (hw3 : Cond.initialized C ∈ TB) (hfs : ∀ j, j < N → defaultValue (ty j) = vp_V fs j) (hce : ce + 1 ≤ mc) (hsl : sl + N ≤ ms) (kk : ∀ q : Nat, G X Q (ws ++ [(q, .inr (ci, fs))]) (ce + 1) (sl + N) (pc + 3) L (.ref q :: st)) : G X Q ws ce sl pc L st := by
  obtain ⟨hc, hin, hty, hnm⟩ := hk
  obtain ⟨p, l, e, R, s, m, args, below, meth, c, D, A⟩ := X
  obtain ⟨hx, hb, hml, hown, hts, hK, hA, -, -, -, -, -, -, hc1, hs1, -, -⟩ := hX
  intro H locs ls hP hD hS h
  exact va_new hx hb hts hin ty hty hown (hts _ hw1) (hts _ hw2) (hts _ hw3) hK hP hD hS hA hc hfs (by omega) (by omega) d (fun q H1 hP1 hD1 hS1 => kk q H1 locs ls hP1 hD1 hS1 h)
theorem g_objInit (hX : CX X l0 D0 own nm cc nL rt rf rl mc ms) {idx a : Nat} (d : decode cc pc = .ok (.invokespecial idx, 3)) (hw1 : Cond.methodLink own idx Lib.objectInit ∈ TB) (hw2 : Cond.instanceMethod Lib.objectInit ∈ TB) (hw3 : Cond.code Lib.objectInit ⟨#[0xb1]⟩ 1 none ∈ TB) (hf : 1 ≤ rf) (hr : (st.map fun v => v.category).sum + 12 ≤ rl) (k : G X Q ws ce sl (pc + 3) L st) : G X Q ws ce sl pc L (.ref a :: st) := by
  obtain ⟨p, l, e, R, s, m, args, below, meth, c, D, A⟩ := X
  obtain ⟨hx, hb, hml, hown, hts, hK, hA, -, -, -, -, hf1, hl1, -, -, -, -⟩ := hX
  intro H locs ls hP hD hS h
  exact W.objInit hx hb hown (hts _ hw1) (hts _ hw2) (hts _ hw3) rfl h.1 rfl d (Nat.le_trans hf hf1) (by show 2 * 0 + _ + 12 ≤ _; omega) (k H locs ls hP hD hS h)
/-! statics -/
theorem g_stat (hX : CX X l0 D0 own nm cc nL rt rf rl mc ms) {idx : Nat} {C n dsc : String} {v : Value} (d : decode cc pc = .ok (.getstatic idx, 3)) (hl : Cond.fieldLink own idx C n dsc ∈ TB ∨ (own, idx, C, n, dsc) ∈ NFl) (hz : match X with | (_, _, _, _, s, _, _, _, _, _, _, A) => va_Z C n dsc v A s s.heap) (k : G X Q ws ce sl (pc + 3) L (v :: st)) : G X Q ws ce sl pc L st := by
  obtain ⟨p, l, e, R, s, m, args, below, meth, c, D, A⟩ := X
  intro H locs ls hP hD hS h
  rcases hl with hl | hl
  · exact va_gets hX.1 hX.2.1 hz hS hX.2.2.2.1 (hX.2.2.2.2.1 _ hl) (fun _ h9 => h9) d (k H locs ls hP hD hS h)
  · exact va_getsN hX.1 hX.2.1 hz hS hX.2.2.2.1 ((hX.2.2.2.2.2.2.2.2.2.2.1.1 _ hl).use rfl) (fun _ h9 => h9) d (k H locs ls hP hD hS h)
/-- the array that a static names -/
def SA (X : CT) (ty : FieldType) (t N : Nat) (f : Nat → Value) : Prop := match X with | (_, _, _, _, s, _, _, _, _, _, _, A) => va_T ty t N f A s s.heap
theorem g_statA (hX : CX X l0 D0 own nm cc nL rt rf rl mc ms) {idx : Nat} {C n dsc : String} {ty : FieldType} {N : Nat} {f : Nat → Value} (d : decode cc pc = .ok (.getstatic idx, 3)) (hl : Cond.fieldLink own idx C n dsc ∈ TB ∨ (own, idx, C, n, dsc) ∈ NFl) (hz : match X with | (_, _, _, _, s, _, _, _, _, _, _, A) => ∃ t : Nat, va_Z C n dsc (.ref t) A s s.heap ∧ va_T ty t N f A s s.heap) (k : ∀ t : Nat, SA X ty t N f → G X Q ws ce sl (pc + 3) L (.ref t :: st)) : G X Q ws ce sl pc L st := by
  obtain ⟨p, l, e, R, s, m, args, below, meth, c, D, A⟩ := X
  obtain ⟨t, z1, z2⟩ := hz
  exact g_stat hX d hl z1 (k t z2)
theorem CX.least (hX : CX X l0 D0 own nm cc nL rt rf rl mc ms) : match X with | (_, _, _, _, s, _, _, _, _, _, _, A) => ∃ t : Nat, va_Z "SightSpacing" "LEAST_TERMS" "[I" (.ref t) A s s.heap ∧ va_T .int t 5 (fun j => .int (leastT.getD j 0)) A s s.heap := by
  obtain ⟨p, l, e, R, s, m, args, below, meth, c, D, A⟩ := X
  exact hX.2.2.2.2.2.2.2.2.2.2.1.2.2.2.1
theorem CX.most (hX : CX X l0 D0 own nm cc nL rt rf rl mc ms) : match X with | (_, _, _, _, s, _, _, _, _, _, _, A) => ∃ t : Nat, va_Z "SightSpacing" "MOST_TERMS" "[I" (.ref t) A s s.heap ∧ va_T .int t 5 (fun j => .int (mostT.getD j 0)) A s s.heap := by
  obtain ⟨p, l, e, R, s, m, args, below, meth, c, D, A⟩ := X
  exact hX.2.2.2.2.2.2.2.2.2.2.1.2.2.2.2.1
theorem CX.place (hX : CX X l0 D0 own nm cc nL rt rf rl mc ms) : match X with | (_, _, _, _, s, _, _, _, _, _, _, A) => ∃ t : Nat, va_Z "SightSpacing" "PLACE_VALUES" "[I" (.ref t) A s s.heap ∧ va_T .int t 5 (fun j => .int (placeV.getD j 0)) A s s.heap := by
  obtain ⟨p, l, e, R, s, m, args, below, meth, c, D, A⟩ := X
  exact hX.2.2.2.2.2.2.2.2.2.2.1.2.2.2.2.2.1
theorem CX.ones (hX : CX X l0 D0 own nm cc nL rt rf rl mc ms) : match X with | (_, _, _, _, s, _, _, _, _, _, _, A) => ∃ t : Nat, va_Z "java/lang/Integer" "DigitOnes" "[B" (.ref t) A s s.heap ∧ va_T .byte t 100 (fun j => .int (digOne j)) A s s.heap := by
  obtain ⟨p, l, e, R, s, m, args, below, meth, c, D, A⟩ := X
  exact hX.2.2.2.2.2.2.2.2.2.2.1.2.2.2.2.2.2.2.1
theorem CX.tens (hX : CX X l0 D0 own nm cc nL rt rf rl mc ms) : match X with | (_, _, _, _, s, _, _, _, _, _, _, A) => ∃ t : Nat, va_Z "java/lang/Integer" "DigitTens" "[B" (.ref t) A s s.heap ∧ va_T .byte t 100 (fun j => .int (digTen j)) A s s.heap := by
  obtain ⟨p, l, e, R, s, m, args, below, meth, c, D, A⟩ := X
  exact hX.2.2.2.2.2.2.2.2.2.2.1.2.2.2.2.2.2.2.2.1
theorem g_tald (hX : CX X l0 D0 own nm cc nL rt rf rl mc ms) {t N n : Nat} {f : Nat → Value} (d : decode cc pc = .ok (.iaload, 1)) (hT : SA X .int t N f) (hN : N < 2147483648) (hn : n < N) (kk : G X Q ws ce sl (pc + 1) L (f n :: st)) : G X Q ws ce sl pc L (.int (nI n) :: .ref t :: st) := by
  obtain ⟨p, l, e, R, s, m, args, below, meth, c, D, A⟩ := X
  intro H locs ls hP hD hS h
  exact va_ti hX.1 hX.2.1 hT hS (vp_inN hn hN) (by rw [nI_clamp (n := n) (by omega)]) d (kk H locs ls hP hD hS h)
theorem g_tbld (hX : CX X l0 D0 own nm cc nL rt rf rl mc ms) {t N n : Nat} {f : Nat → Value} (d : decode cc pc = .ok (.baload, 1)) (hT : SA X .byte t N f) (hN : N < 2147483648) (hn : n < N) (kk : G X Q ws ce sl (pc + 1) L (f n :: st)) : G X Q ws ce sl pc L (.int (nI n) :: .ref t :: st) := by
  obtain ⟨p, l, e, R, s, m, args, below, meth, c, D, A⟩ := X
  intro H locs ls hP hD hS h
  exact va_tb hX.1 hX.2.1 hT hS (vp_inN hn hN) (by rw [nI_clamp (n := n) (by omega)]) d (kk H locs ls hP hD hS h)
/-! Math, arraycopy -/
theorem g_mmax (hX : CX X l0 D0 own nm cc nL rt rf rl mc ms) {idx : Nat} {x y : Int32} (d : decode cc pc = .ok (.invokestatic idx, 3)) (h1 : Cond.methodLink own idx Lib.Math.max.name ∈ TB) (h2 : Cond.static Lib.Math.max.name ∈ TB) (h3 : Cond.initialized "java/lang/Math" ∈ TB) (h4 : Cond.code Lib.Math.max.name Lib.Math.max.code 2 (some .int) ∈ TB) (hf : 1 ≤ rf) (hr : (st.map fun v => v.category).sum + 13 ≤ rl) (hce : ce ≤ mc) (hsl : sl ≤ ms) (k : G X Q ws ce sl (pc + 3) L (.int (if x < y then y else x) :: st)) : G X Q ws ce sl pc L (.int y :: .int x :: st) := by
  obtain ⟨p, l, e, R, s, m, args, below, meth, c, D, A⟩ := X
  obtain ⟨hx, hb, hml, hown, hts, hK, hA, -, -, -, -, hf1, hl1, hc1, hs1, -, -⟩ := hX
  intro H locs ls hP hD hS h
  exact va_mmax hx hb h.1.symm hown (hts _ h1) (hts _ h2) (hts _ h3) (hts _ h4) (Nat.le_trans hf hf1) (by omega) (by omega) (by omega) d (k H locs ls hP hD hS h)
theorem g_mmin (hX : CX X l0 D0 own nm cc nL rt rf rl mc ms) {idx : Nat} {x y : Int32} (d : decode cc pc = .ok (.invokestatic idx, 3)) (h1 : Cond.methodLink own idx Lib.Math.min.name ∈ TB) (h2 : Cond.static Lib.Math.min.name ∈ TB) (h3 : Cond.initialized "java/lang/Math" ∈ TB) (h4 : Cond.code Lib.Math.min.name Lib.Math.min.code 2 (some .int) ∈ TB) (hf : 1 ≤ rf) (hr : (st.map fun v => v.category).sum + 13 ≤ rl) (hce : ce ≤ mc) (hsl : sl ≤ ms) (k : G X Q ws ce sl (pc + 3) L (.int (if y < x then y else x) :: st)) : G X Q ws ce sl pc L (.int y :: .int x :: st) := by
  obtain ⟨p, l, e, R, s, m, args, below, meth, c, D, A⟩ := X
  obtain ⟨hx, hb, hml, hown, hts, hK, hA, -, -, -, -, hf1, hl1, hc1, hs1, -, -⟩ := hX
  intro H locs ls hP hD hS h
  exact va_mmin hx hb h.1.symm hown (hts _ h1) (hts _ h2) (hts _ h3) (hts _ h4) (Nat.le_trans hf hf1) (by omega) (by omega) (by omega) d (k H locs ls hP hD hS h)
theorem g_mabs (hX : CX X l0 D0 own nm cc nL rt rf rl mc ms) {idx : Nat} {x : Int32} (d : decode cc pc = .ok (.invokestatic idx, 3)) (h1 : Cond.methodLink own idx Lib.Math.abs.name ∈ TB) (h2 : Cond.static Lib.Math.abs.name ∈ TB) (h3 : Cond.initialized "java/lang/Math" ∈ TB) (h4 : Cond.code Lib.Math.abs.name Lib.Math.abs.code 1 (some .int) ∈ TB) (hf : 1 ≤ rf) (hr : (st.map fun v => v.category).sum + 13 ≤ rl) (hce : ce ≤ mc) (hsl : sl ≤ ms) (k : G X Q ws ce sl (pc + 3) L (.int (if 0 ≤ x then x else 0 - x) :: st)) : G X Q ws ce sl pc L (.int x :: st) := by
  obtain ⟨p, l, e, R, s, m, args, below, meth, c, D, A⟩ := X
  obtain ⟨hx, hb, hml, hown, hts, hK, hA, -, -, -, -, hf1, hl1, hc1, hs1, -, -⟩ := hX
  intro H locs ls hP hD hS h
  exact va_mabs hx hb h.1.symm hown (hts _ h1) (hts _ h2) (hts _ h3) (hts _ h4) (Nat.le_trans hf hf1) (by omega) (by omega) (by omega) d (k H locs ls hP hD hS h)
theorem g_copyi (hX : CX X l0 D0 own nm cc nL rt rf rl mc ms) {idx a0 a sp dp n n0 n1 : Nat} {f g : Nat → Int32} {ws' : va_W} (d : decode cc pc = .ok (.invokestatic idx, 3)) (h1 : Cond.methodLink own idx arraycopyName ∈ TB) (h2 : Cond.native arraycopyName ∈ TB) (h3 : Cond.static arraycopyName ∈ TB) (h4 : Cond.initialized "java/lang/System" ∈ TB) (q0 q1 : Nat) (he0 : ws[q0]? = some (a0, .inl (D0.1 100, n0, .inl f))) (he1 : ws[q1]? = some (a, .inl (D0.1 100, n1, .inl g))) (hn0 : n0 < 2147483648) (hn1 : n1 < 2147483648) (k1 : sp + n ≤ n0) (k2 : dp + n ≤ n1) (hf : 1 ≤ rf) (hr : (st.map fun v => v.category).sum + (nativeFrameWords "java/lang/System" "arraycopy" 5 + 11) ≤ rl) (hw : ws.set q1 (a, .inl (D0.1 100, n1, .inl (va_cpy f g sp dp n))) = ws') (kk : G X Q ws' ce sl (pc + 3) L st) : G X Q ws ce sl pc L (.int (nI n) :: .int (nI dp) :: .ref a :: .int (nI sp) :: .ref a0 :: st) := by
  subst hw
  obtain ⟨p, l, e, R, s, m, args, below, meth, c, D, A⟩ := X
  obtain rfl : D = D0 := hX.2.2.2.2.2.2.2.2.2.2.2.2.2.2.2.2
  obtain ⟨hx, hb, hml, hown, hts, hK, hA, -, -, -, -, hf1, hl1, hc1, hs1, -, -⟩ := hX
  intro H locs ls hP hD hS h
  have c1 := nI_clamp (n := sp) (by omega)
  have c2 := nI_clamp (n := dp) (by omega)
  have c3 := nI_clamp (n := n) (by omega)
  refine va_copyi hx hb h.1.symm hown (hts _ h1) (hts _ h2) (hts _ h3) (hts _ h4) hK hP hD hS q0 q1 0 0 he0 he1 (ty := .int) rfl rfl rfl (nI_pos (by omega)) (nI_pos (by omega)) (nI_pos (by omega)) (by rw [c1, c3]; exact k1) (by rw [c2, c3]; exact k2) (fun i _ => rfl) (Nat.le_trans hf hf1) (Nat.le_trans hr hl1) d (fun H1 locs1 hP1 hD1 hS1 => ?_)
  rw [c1, c2, c3] at hP1 hD1
  exact kk H1 locs1 ls hP1 hD1 hS1 h
end GH
