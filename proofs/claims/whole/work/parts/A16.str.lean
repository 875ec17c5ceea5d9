/-! string constants -/
section GS
variable {X : CT} {l0 : Launch} {D0 : va_G} {own nm : String} {cc : ByteArray} {nL : Nat} {rt : Option FieldType} {rf rl mc ms : Nat} {Q : State → Prop} {ws : va_W} {ce sl pc : Nat} {L : List (Option Value)} {st : List Value}
theorem CX.ro (hX : CX X l0 D0 own nm cc nL rt rf rl mc ms) : match X with | (_, _, _, _, s, _, _, _, _, _, _, A) => RO D0 A s s.heap := by
  obtain ⟨p, l, e, R, s, m, args, below, meth, c, D, A⟩ := X
  obtain ⟨hx, hb, hml, hown, hts, hK, hA, -, -, -, hRO, hf1, hl1, hc1, hs1, hl0, hD0⟩ := hX
  subst hD0
  exact hRO
theorem CX.compact (hX : CX X l0 D0 own nm cc nL rt rf rl mc ms) : match X with | (_, _, _, _, s, _, _, _, _, _, _, A) => va_Z "java/lang/String" "COMPACT_STRINGS" "Z" (.int (nI 1)) A s s.heap := by
  have h := hX.ro
  obtain ⟨p, l, e, R, s, m, args, below, meth, c, D, A⟩ := X
  exact h.2.2.2.2.2.2.1
theorem g_statQ (hX : CX X l0 D0 own nm cc nL rt rf rl mc ms) {idx : Nat} (d : decode cc pc = .ok (.getstatic idx, 3)) (hl : Cond.fieldLink own idx "jdk/internal/util/Preconditions" "SIOOBE_FORMATTER" "Ljava/util/function/BiFunction;" ∈ TB ∨ (own, idx, "jdk/internal/util/Preconditions", "SIOOBE_FORMATTER", "Ljava/util/function/BiFunction;") ∈ NFl) (k0 : G X Q ws ce sl (pc + 3) L (.null :: st)) (k1 : ∀ z : Nat, G X Q ws ce sl (pc + 3) L (.ref z :: st)) : G X Q ws ce sl pc L st := by
  have h := hX.ro
  obtain ⟨p, l, e, R, s, m, args, below, meth, c, D, A⟩ := X
  have h : RO D0 A s s.heap := h
  rcases h.2.2.2.2.2.2.2.2.2.1 with q | ⟨t, q⟩
  · exact g_stat hX d hl q k0
  · exact g_stat hX d hl q (k1 t)
theorem CX.strV (hX : CX X l0 D0 own nm cc nL rt rf rl mc ms) {i : Nat} (hi : i < 8) : SA X .byte (D0.2 101 i) (strLen.getD i 0) (fun j => .int ((strByt.getD i []).getD j 0)) := by
  have h := hX.ro
  obtain ⟨p, l, e, R, s, m, args, below, meth, c, D, A⟩ := X
  have h : RO D0 A s s.heap := h
  exact (h.2.2.2.2.2.2.2.2.2.2.1.1 i hi).2.2.2
theorem g_alenT (hX : CX X l0 D0 own nm cc nL rt rf rl mc ms) {t N : Nat} {ty : FieldType} {f : Nat → Value} (d : decode cc pc = .ok (.arraylength, 1)) (hT : SA X ty t N f) (kk : G X Q ws ce sl (pc + 1) L (.int (nI N) :: st)) : G X Q ws ce sl pc L (.ref t :: st) := by
  obtain ⟨p, l, e, R, s, m, args, below, meth, c, D, A⟩ := X
  intro H locs ls hP hD hS h
  obtain ⟨cell, h1, h2, h3, h4, h5, h6, h7⟩ := hT
  exact W.alen hX.1 hX.2.1 (by rw [hS.2.1 t (Array.getElem?_eq_some_iff.mp h1).1 h7]; exact h1) h2 h5 rfl rfl d (kk H locs ls hP hD hS h)
theorem g_ldcS (hX : CX X l0 D0 own nm cc nL rt rf rl mc ms) {i k : Nat} (hi : i < 8) (hk : strIx.getD i 0 = k) (ho : own = "SightSpacing$Reader") (d : decode cc pc = .ok (.ldc k, 2)) (kk : G X Q ws ce sl (pc + 2) L (.ref (D0.2 100 i) :: st)) : G X Q ws ce sl pc L st := by
  subst hk
  subst ho
  have hr := hX.ro
  obtain ⟨p, l, e, R, s, m, args, below, meth, c, D, A⟩ := X
  have hr : RO D0 A s s.heap := hr
  intro H locs ls hP hD hS h
  exact va_ldcS hX.1 hX.2.1 hX.2.2.2.1 (hr.2.2.2.2.2.2.2.2.2.2.2 i hi) d (kk H locs ls hP hD hS h)
theorem g_getKv (hX : CX X l0 D0 own nm cc nL rt rf rl mc ms) {i idx : Nat} (hi : i < 8) (d : decode cc pc = .ok (.getfield idx, 3)) (hl : Cond.fieldLink own idx "java/lang/String" "value" "[B" ∈ TB) (kk : G X Q ws ce sl (pc + 3) L (.ref (D0.2 101 i) :: st)) : G X Q ws ce sl pc L (.ref (D0.2 100 i) :: st) := by
  have hr := hX.ro
  obtain ⟨p, l, e, R, s, m, args, below, meth, c, D, A⟩ := X
  have hr : RO D0 A s s.heap := hr
  intro H locs ls hP hD hS h
  exact vk_getf hX.1 hX.2.1 (hr.2.2.2.2.2.2.2.2.2.2.1.1 i hi).2.2.1 hS hX.2.2.2.1 (hX.2.2.2.2.1 _ hl) (fun _ h9 => h9) d (kk H locs ls hP hD hS h)
theorem g_getKc (hX : CX X l0 D0 own nm cc nL rt rf rl mc ms) {i idx : Nat} (hi : i < 8) (d : decode cc pc = .ok (.getfield idx, 3)) (hl : Cond.fieldLink own idx "java/lang/String" "coder" "B" ∈ TB) (kk : G X Q ws ce sl (pc + 3) L (.int (nI 0) :: st)) : G X Q ws ce sl pc L (.ref (D0.2 100 i) :: st) := by
  have hr := hX.ro
  obtain ⟨p, l, e, R, s, m, args, below, meth, c, D, A⟩ := X
  have hr : RO D0 A s s.heap := hr
  intro H locs ls hP hD hS h
  exact vk_getf hX.1 hX.2.1 (hr.2.2.2.2.2.2.2.2.2.2.1.1 i hi).2.1 hS hX.2.2.2.1 (hX.2.2.2.2.1 _ hl) (fun _ h9 => h9) d (kk H locs ls hP hD hS h)
variable {idx : Nat} {y : MethodName} {b : ByteArray} {maxL : Nat} {ret : Option FieldType} {n rf' rl' : Nat} {As rest : List Value}
/-- a call on a string constant -/
theorem g_callK {i : Nat} {v : Int32} (hX : CX X l0 D0 own nm cc nL rt rf rl mc ms) (hi : i < 8) (hyc : y.cls = "java/lang/String") (d : decode cc pc = .ok (.invokevirtual idx, 3)) (cw : CW own idx y b maxL ret n) (hC : Cf l0 D0 y b maxL ret rf' rl' (.ref (D0.2 100 i) :: As) [] (some (.int v)) []) (hst : st = As.reverse ++ .ref (D0.2 100 i) :: rest) (hn : As.length = n)
    (hroom : rf' + 1 ≤ rf ∧ 8 + (maxL + 11) + rl' ≤ rl) (hW : (rest.map fun v => v.category).sum ≤ 8) (hce : ce ≤ mc) (hsl : sl ≤ ms)
    (kk : G X Q ws ce sl (pc + 3) L (.int v :: rest)) : G X Q ws ce sl pc L st := by
  obtain ⟨w1, w2, w3, w4, w5, n1, n2, n3⟩ := cw
  obtain ⟨p, l, e, R, s, m, args, below, meth, c, D, A⟩ := X
  obtain ⟨hx, hb, hml, hown, hts, hK, hA, -, -, -, hRO, hf1, hl1, hc1, hs1, hl0, hD0⟩ := hX
  subst hl0; subst hD0
  intro H locs ls hP hD hS h
  have his : ([] : List Nat).map (fun i => ws[i]?) = ([] : va_W).map some := rfl
  have hnd : va_nd ([] : List Nat) = true := rfl
  have hPc : va_P D vwCl [] H := fun k x hx => by
    obtain ⟨i, h1, h2⟩ := map_at his hx
    exact hP i x h2
  have hDc : va_D (fun _ => True) [] := (hD.sub [] hnd his).weaken (fun _ _ _ _ => trivial)
  have hFc := va_free (wc := []) hD hS hA [] his
  have cwf := cwV (R := R) (own := own) (C := y.cls) (index := idx) (maxL := maxL) (ret := ret) (bytes := b) (mc := 0) (ms := 0) (rm := { frames := rf', cells := 0, slots := 0, locals := rl' }) n hts (TB_gi (ws := wsV own idx y.cls y (Cond.code y b maxL ret :: TB)) (fun w hw => by
    rcases List.mem_append.mp hw with h | h
    · simp only [List.mem_cons, List.not_mem_nil, or_false] at h
      rcases h with rfl | rfl | rfl | rfl
      · exact w1
      · exact w2
      · exact w3
      · exact w4
    · exact goodCode w5 w h)) rfl rfl rfl ⟨rfl, n1, n2, n3⟩ ⟨Nat.le_trans hroom.1 hf1, Nat.le_trans hroom.2 hl1⟩
  have hrun := va_runV (rest := rest) (locs := locs) (cells := ce) (slots := sl) (e := e) (below := below) (meth := meth) (g := F0 m pc ls st) (H := H) ⟨hx, hb, rfl, hown, hts⟩ (hC H.size) cwf ⟨ct_blind, by rw [hyc]; exact vk_recv hRO.2.2.2.2.2.2.2.2.2.2.1 hi hS, fun U hU hW => ⟨rfl, by rw [hU], by rw [hU]; exact hPc, va_K.moved hW.alike hK, hDc, by rw [hU]; exact ((hRO.kept hS.2.1).narrow hFc).warm hW⟩⟩ rfl hn h.1 hst (lv_room hW) d ⟨by omega, by omega⟩
  refine run_G hrun hA [] his hP hD hS (fun v u H1 locs1 hp hP1 hD1 hk1 hS1 => ?_)
  subst hp
  exact kk H1 locs1 ls (patch_P hP hD [] his hnd rfl hk1 hP1) (hD.ofFst (patch_fst [] ws [] [] his rfl hnd)) hS1 h
theorem g_callSRv {wc : va_W} (hX : CX X l0 D0 own nm cc nL rt rf rl mc ms) (d : decode cc pc = .ok (.invokestatic idx, 3)) (cw : CWS own idx y b maxL ret n) (hC : Cf l0 D0 y b maxL ret rf' rl' As wc none wc) (is : List Nat) (hst : st = As.reverse ++ rest) (his : is.map (fun i => ws[i]?) = wc.map some) (hnd : va_nd is = true) (hn : As.length = n) (hroom : rf' + 1 ≤ rf ∧ 8 + (maxL + 11) + rl' ≤ rl) (hW : (rest.map fun v => v.category).sum ≤ 8) (hce : ce ≤ mc) (hsl : sl ≤ ms) (kk : G X Q ws ce sl (pc + 3) L rest) : G X Q ws ce sl pc L st :=
  g_callSF hX d cw hC is hst his hnd hn rfl hroom hW hce hsl (patch_self is ws wc his) kk
end GS
def strC (i k : Nat) : Nat := ((strByt.getD i []).getD k 0).toNatClampNeg
def strW (i : Nat) : List Nat := (strByt.getD i []).map (·.toNatClampNeg)
theorem str_all : ∀ i, i < 8 → strLen.getD i 0 ≤ 6 ∧ (strW i).length = strLen.getD i 0 ∧ ∀ k, k < strLen.getD i 0 → strC i k < 256 ∧ (strByt.getD i []).getD k 0 &&& nI 255 = nI (strC i k) ∧ (strW i).getD k 0 = strC i k := by decide
theorem nar_c8a : ∀ x, x < 256 → (nI x).toUInt32.toUInt16.toUInt32.toInt32 = nI x := by decide +kernel
theorem nar_c8 {x : Nat} (h : x < 256) : narrow .char (.int (nI x)) = .int (nI x) := congrArg Value.int (nar_c8a x h)
theorem wordL_len {t : Nat → Nat} {a n : Nat} : (wordL t a (a + n)).length = n := by unfold wordL; simp
theorem wordL_at {t : Nat → Nat} {a n k : Nat} (h : k < n) : (wordL t a (a + n)).getD k 0 = t (a + k) := by
  unfold wordL
  rw [show a + n - a = n by omega]
  simp [h]
theorem word_len {t : Nat → Nat} {a n i : Nat} (hi : i < 8) (h : ¬ n = strLen.getD i 0) : ¬ wordL t a (a + n) = strW i := by
  intro e
  have := congrArg List.length e
  rw [wordL_len, (str_all i hi).2.1] at this
  exact h this
theorem word_ne {t : Nat → Nat} {a n i k : Nat} (hi : i < 8) (hn : n = strLen.getD i 0) (hk : k < n) (h : ¬ t (a + k) = strC i k) : ¬ wordL t a (a + n) = strW i := by
  intro e
  have := congrArg (fun l => l.getD k 0) e
  rw [wordL_at hk, ((str_all i hi).2.2 k (by omega)).2.2] at this
  exact h this
theorem word_is {t : Nat → Nat} {a n i : Nat} (hi : i < 8) (hn : n = strLen.getD i 0) (h : ∀ k, k < n → t (a + k) = strC i k) : wordL t a (a + n) = strW i := by
  apply List.ext_getElem
  · rw [wordL_len, (str_all i hi).2.1]; exact hn
  · intro k h1 h2
    rw [wordL_len] at h1
    have e1 := wordL_at (t := t) (a := a) h1
    have e2 := ((str_all i hi).2.2 k (by omega)).2.2
    rw [List.getD_eq_getElem?_getD, List.getElem?_eq_getElem (by rw [wordL_len]; exact h1)] at e1
    rw [List.getD_eq_getElem?_getD, List.getElem?_eq_getElem h2] at e2
    have e1 : (wordL t a (a + n))[k]'(by rw [wordL_len]; exact h1) = t (a + k) := e1
    have e2 : (strW i)[k] = strC i k := e2
    rw [e1, e2]
    exact h k h1
