/-! what holds at the law's start -/
theorem nf_in : ∀ q ∈ NFl, nfw q ∈ lw_tbl := by
  intro q hq
  unfold NFl at hq
  simp only [List.mem_cons, List.not_mem_nil, or_false] at hq
  rcases hq with rfl | rfl | rfl | rfl | rfl | rfl | rfl | rfl | rfl | rfl | rfl | rfl | rfl | rfl | rfl | rfl | rfl | rfl | rfl | rfl | rfl | rfl | rfl | rfl | rfl
  · exact List.mem_of_getElem? (i := 111) (by decide +kernel)
  · exact List.mem_of_getElem? (i := 114) (by decide +kernel)
  · exact List.mem_of_getElem? (i := 116) (by decide +kernel)
  · exact List.mem_of_getElem? (i := 117) (by decide +kernel)
  · exact List.mem_of_getElem? (i := 118) (by decide +kernel)
  · exact List.mem_of_getElem? (i := 121) (by decide +kernel)
  · exact List.mem_of_getElem? (i := 149) (by decide +kernel)
  · exact List.mem_of_getElem? (i := 150) (by decide +kernel)
  · exact List.mem_of_getElem? (i := 152) (by decide +kernel)
  · exact List.mem_of_getElem? (i := 153) (by decide +kernel)
  · exact List.mem_of_getElem? (i := 167) (by decide +kernel)
  · exact List.mem_of_getElem? (i := 169) (by decide +kernel)
  · exact List.mem_of_getElem? (i := 174) (by decide +kernel)
  · exact List.mem_of_getElem? (i := 176) (by decide +kernel)
  · exact List.mem_of_getElem? (i := 178) (by decide +kernel)
  · exact List.mem_of_getElem? (i := 217) (by decide +kernel)
  · exact List.mem_of_getElem? (i := 220) (by decide +kernel)
  · exact List.mem_of_getElem? (i := 222) (by decide +kernel)
  · exact List.mem_of_getElem? (i := 224) (by decide +kernel)
  · exact List.mem_of_getElem? (i := 226) (by decide +kernel)
  · exact List.mem_of_getElem? (i := 255) (by decide +kernel)
  · exact List.mem_of_getElem? (i := 273) (by decide +kernel)
  · exact List.mem_of_getElem? (i := 465) (by decide +kernel)
  · exact List.mem_of_getElem? (i := 467) (by decide +kernel)
  · exact List.mem_of_getElem? (i := 519) (by decide +kernel)
theorem nm_in : ∀ q ∈ NMl, nmw q ∈ lw_tbl := by
  intro q hq
  unfold NMl at hq
  simp only [List.mem_cons, List.not_mem_nil, or_false] at hq
  rcases hq with rfl | rfl | rfl
  · exact List.mem_of_getElem? (i := 144) (by decide +kernel)
  · exact List.mem_of_getElem? (i := 209) (by decide +kernel)
  · exact List.mem_of_getElem? (i := 265) (by decide +kernel)
def flT : List Cond := flatC (Jvm.Cond.and given_1 narrow_1)
def tS (C n d : String) : Term := .static C n d
theorem fl_least : ∀ j, j < 5 → flT[12 + j]? = some (Cond.eq (.elem (.static "SightSpacing" "LEAST_TERMS" "[I") (.int (Int32.ofNat j))) (.int (leastT.getD j 0))) := by decide +kernel
theorem fl_most : ∀ j, j < 5 → flT[20 + j]? = some (Cond.eq (.elem (.static "SightSpacing" "MOST_TERMS" "[I") (.int (Int32.ofNat j))) (.int (mostT.getD j 0))) := by decide +kernel
theorem fl_place : ∀ j, j < 5 → flT[28 + j]? = some (Cond.eq (.elem (.static "SightSpacing" "PLACE_VALUES" "[I") (.int (Int32.ofNat j))) (.int (placeV.getD j 0))) := by decide +kernel
theorem fl_ones : ∀ j, j < 100 → flT[36 + j]? = some (Cond.eq (.elem (.static "java/lang/Integer" "DigitOnes" "[B") (.int (Int32.ofNat j))) (.int (digOne j))) := by decide +kernel
theorem fl_tens : ∀ j, j < 100 → flT[139 + j]? = some (Cond.eq (.elem (.static "java/lang/Integer" "DigitTens" "[B") (.int (Int32.ofNat j))) (.int (digTen j))) := by decide +kernel
def tK (i : Nat) : Term := .string "SightSpacing$Reader" (strIx.getD i 0)
def eK : List Nat := [239, 247, 255, 264, 274, 284, 297, 313]
theorem fl_k1 : ∀ i, i < 8 → flT[eK.getD i 0]? = some (Cond.exactly (tK i) "java/lang/String") := by decide +kernel
theorem fl_k2 : ∀ i, i < 8 → flT[eK.getD i 0 + 1]? = some (Cond.eq (.field (tK i) "java/lang/String" "coder" "B") (.int 0)) := by decide +kernel
theorem fl_k3 : ∀ i, i < 8 → flT[eK.getD i 0 + 2]? = some (Cond.arrayOf (.field (tK i) "java/lang/String" "value" "[B") .byte) := by decide +kernel
theorem fl_k4 : ∀ i, i < 8 → flT[eK.getD i 0 + 3]? = some (Cond.eq (.length (.field (tK i) "java/lang/String" "value" "[B")) (.int (Int32.ofNat (strLen.getD i 0)))) := by decide +kernel
theorem fl_k5 : ∀ i, i < 8 → ∀ j, j < strLen.getD i 0 → flT[eK.getD i 0 + 4 + j]? = some (Cond.eq (.elem (.field (tK i) "java/lang/String" "value" "[B") (.int (Int32.ofNat j))) (.int ((strByt.getD i []).getD j 0))) := by decide +kernel
theorem fl_k6 : ∀ j, j < 8 → ∀ i, i < j → (Cond.not (Cond.eq (tK i) (tK j))) ∈ flT := by decide +kernel
def sK : List Nat := [408, 473, 474, 475, 476, 481, 482, 483]
theorem tb_k : ∀ i, i < 8 → lw_tbl[sK.getD i 0]? = some (Cond.stringRef "SightSpacing$Reader" (strIx.getD i 0) (strTx.getD i "")) := by decide +kernel
theorem arr_of {args : Array Value} {s : State} {ty : FieldType} (h : (Cond.arrayClass ty).before args s = true) : ∃ c : ClassId, ArrOfT s c ty ∧ s.vm.findClass ("[" ++ ty.toString) = some c := by
  obtain ⟨c, k, comp, h1, h2, h3⟩ := Cond.arrayClass_spec h
  exact ⟨c, fun n z => ⟨fun k h => (by cases h), k, h2, comp, h3⟩, h1⟩
theorem arr_ob {args : Array Value} {s : State} {C : String} (h : (Cond.arrayOver (.object C)).before args s = true) : ∃ c : ClassId, ArrOfT s c (.object C) ∧ va_RA s c (.object C) := by
  obtain ⟨comp, c, k, h1, h2, h3, h4, h5⟩ := Cond.arrayOver_spec h
  exact ⟨c, fun n z => ⟨fun k h => (by cases h), k, h3, comp, h4⟩, k, comp, h3, h4, h1, h5⟩
theorem stat_T {args : Array Value} {s : State} {C n d : String} {ty : FieldType} {N : Nat} {f : Nat → Int32} (hN : N < 2 ^ 31) (hl : (Cond.laysStatic C n d).before args s = true) (hini : (Cond.initialized C).before args s = true) (harr : (Cond.arrayOf (.static C n d) ty).before args s = true) (hlen : (Cond.eq (.length (.static C n d)) (.int (Int32.ofNat N))).before args s = true) (hel : ∀ j, j < N → (Cond.eq (.elem (.static C n d) (.int (Int32.ofNat j))) (.int (f j))).before args s = true) : ∃ t : Nat, va_Z C n d (.ref t) (fun q => s.heap.size ≤ q) s s.heap ∧ va_T ty t N (fun j => .int (f j)) (fun q => s.heap.size ≤ q) s s.heap := by
  have hA : ∀ a : Nat, a < s.heap.size → ¬ s.heap.size ≤ a := fun a h => by omega
  obtain ⟨t, h1, h2⟩ := va_Tof (f := fun j => .int (f j)) hN harr (va_eqt hlen) (fun j hj => va_eqt (hel j hj)) hA
  exact ⟨t, va_Zref hl hini h1 hA, h2⟩
set_option maxRecDepth 20000 in
theorem ground {s : State} {b : Nat} (hts : ∀ w ∈ lw_tbl, w.before #[Value.ref b] s = true) (hgv : (Jvm.Cond.and given_1 narrow_1).before #[Value.ref b] s = true) : ∃ D : va_G, va_K D vwCl (tysD D) s ∧ RO D (fun q => s.heap.size ≤ q) s s.heap := by
  have hA : ∀ a : Nat, a < s.heap.size → ¬ s.heap.size ≤ a := fun a h => by omega
  have hTB : ∀ w ∈ TB, w.before #[Value.ref b] s = true := fun w h => hts w (List.mem_filter.mp h).1
  have hfl : ∀ (k : Nat) (c : Cond), flT[k]? = some c → c.before #[Value.ref b] s = true := fun k c h => flat_of_before _ hgv c (List.mem_of_getElem? h)
  have hfm : ∀ c : Cond, c ∈ flT → c.before #[Value.ref b] s = true := fun c h => flat_of_before _ hgv c h
  obtain ⟨c0, i0, k0⟩ := u_known hTB ck_J4.2.1 (hTB _ tw_ins_J4)
  obtain ⟨c1, i1, k1⟩ := u_known hTB ck_X0.2.1 (hTB _ tw_ins_X0)
  obtain ⟨c2, i2, k2⟩ := u_known hTB ck_X1.2.1 (hTB _ tw_ins_X1)
  obtain ⟨c3, i3, k3⟩ := u_known hTB ck_X2.2.1 (hTB _ tw_ins_X2)
  obtain ⟨c4, i4, k4⟩ := u_known hTB ck_X3.2.1 (hTB _ tw_ins_X3)
  obtain ⟨c5, i5, k5⟩ := u_known hTB ck_X4.2.1 (hTB _ tw_ins_X4)
  obtain ⟨c6, i6, k6⟩ := u_known hTB ck_X5.2.1 (hTB _ tw_ins_X5)
  obtain ⟨c7, i7, k7⟩ := u_known hTB ck_X6.2.1 (hTB _ tw_ins_X6)
  obtain ⟨c8, i8, k8⟩ := u_known hTB ck_X7.2.1 (hTB _ tw_ins_X7)
  obtain ⟨a0, p0, n0⟩ := arr_of (ty := .int) (hts _ (List.mem_of_getElem? (i := 135) (by decide +kernel)))
  obtain ⟨a1, p1, n1⟩ := arr_of (ty := .char) (hts _ (List.mem_of_getElem? (i := 242) (by decide +kernel)))
  obtain ⟨a2, p2, n2⟩ := arr_of (ty := .boolean) (hts _ (List.mem_of_getElem? (i := 314) (by decide +kernel)))
  obtain ⟨a3, p3, n3⟩ := arr_ob (C := "SightSpacing$State") (hts _ (List.mem_of_getElem? (i := 250) (by decide +kernel)))
  obtain ⟨a4, p4, n4⟩ := arr_of (ty := .byte) (hts _ (List.mem_of_getElem? (i := 490) (by decide +kernel)))
  obtain ⟨adK, adV, hS, hE⟩ := vk_Sof (args := #[Value.ref b]) (s := s) (N := 8) (tm := tK) (len := strLen) (byt := strByt) (A := fun q => s.heap.size ≤ q) (by decide) (fun i hi => hfl _ _ (fl_k1 i hi)) (fun i hi => hfl _ _ (fl_k2 i hi)) (fun i hi => hfl _ _ (fl_k3 i hi)) (fun i hi => hfl _ _ (fl_k4 i hi)) (fun i hi j hj => hfl _ _ (fl_k5 i hi j hj)) (fun i j hi hj hne => by rcases Nat.lt_or_ge i j with q | q; exact Or.inl (hfm _ (fl_k6 j hj i q)); exact Or.inr (hfm _ (fl_k6 i hi j (by omega)))) hA
  refine ⟨(fun k => match k with | 0 => c0 | 1 => c1 | 2 => c2 | 3 => c3 | 4 => c4 | 5 => c5 | 6 => c6 | 7 => c7 | 8 => c8 | 100 => a0 | 101 => a1 | 102 => a2 | 103 => a3 | 104 => a4 | _ => 0, fun k => match k with | 0 => i0 | 1 => i1 | 2 => i2 | 3 => i3 | 4 => i4 | 5 => i5 | 6 => i6 | 7 => i7 | 8 => i8 | 100 => adK | 101 => adV | _ => fun _ => 0), ⟨?_, ?_⟩, ?_⟩
  · intro c q hc
    match c, hc with
    | 0, hc => cases hc; exact k0
    | 1, hc => cases hc; exact k1
    | 2, hc => cases hc; exact k2
    | 3, hc => cases hc; exact k3
    | 4, hc => cases hc; exact k4
    | 5, hc => cases hc; exact k5
    | 6, hc => cases hc; exact k6
    | 7, hc => cases hc; exact k7
    | 8, hc => cases hc; exact k8
    | n + 9, hc => cases hc
  · intro k q hk
    match k, hk with
    | 0, hk => cases hk; exact ⟨p0, n0⟩
    | 1, hk => cases hk; exact ⟨p1, n1⟩
    | 2, hk => cases hk; exact ⟨p2, n2⟩
    | 3, hk => cases hk; exact ⟨p3, n3⟩
    | 4, hk => cases hk; exact ⟨p4, n4⟩
    | n + 5, hk => cases hk
  · refine ⟨fun q hq => va_Nw.of rfl (hts _ (nf_in q hq)), fun q hq => va_Nw.of rfl (hts _ (nm_in q hq)), ⟨va_AO.of (hts _ (List.mem_of_getElem? (i := 250) (by decide +kernel))), va_Nw.of rfl (hts _ (List.mem_of_getElem? (i := 717) (by decide +kernel)))⟩, ?_, ?_, ?_, va_Zof (hts _ (List.mem_of_getElem? (i := 422) (by decide +kernel))) (hts _ (List.mem_of_getElem? (i := 86) (by decide +kernel))) (va_eqi (hfl 4 _ (by decide +kernel))) hA, ?_, ?_, va_Zqof (hts _ (List.mem_of_getElem? (i := 438) (by decide +kernel))) (hts _ (List.mem_of_getElem? (i := 88) (by decide +kernel))) (hfl 5 _ (by decide +kernel)) hA, hS, fun i hi => vk_R.of (hts _ (List.mem_of_getElem? (tb_k i hi))) (hE i hi)⟩
    · exact stat_T (by decide) (hts _ (List.mem_of_getElem? (i := 466) (by decide +kernel))) (hts _ (List.mem_of_getElem? (i := 77) (by decide +kernel))) (hfl 10 _ (by decide +kernel)) (hfl 11 _ (by decide +kernel)) (fun j hj => hfl _ _ (fl_least j hj))
    · exact stat_T (by decide) (hts _ (List.mem_of_getElem? (i := 468) (by decide +kernel))) (hts _ (List.mem_of_getElem? (i := 77) (by decide +kernel))) (hfl 18 _ (by decide +kernel)) (hfl 19 _ (by decide +kernel)) (fun j hj => hfl _ _ (fl_most j hj))
    · exact stat_T (by decide) (hts _ (List.mem_of_getElem? (i := 520) (by decide +kernel))) (hts _ (List.mem_of_getElem? (i := 77) (by decide +kernel))) (hfl 26 _ (by decide +kernel)) (hfl 27 _ (by decide +kernel)) (fun j hj => hfl _ _ (fl_place j hj))
    · exact stat_T (by decide) (hts _ (List.mem_of_getElem? (i := 792) (by decide +kernel))) (hts _ (List.mem_of_getElem? (i := 95) (by decide +kernel))) (hfl 34 _ (by decide +kernel)) (hfl 35 _ (by decide +kernel)) (fun j hj => hfl _ _ (fl_ones j hj))
    · exact stat_T (by decide) (hts _ (List.mem_of_getElem? (i := 794) (by decide +kernel))) (hts _ (List.mem_of_getElem? (i := 95) (by decide +kernel))) (hfl 137 _ (by decide +kernel)) (hfl 138 _ (by decide +kernel)) (fun j hj => hfl _ _ (fl_tens j hj))
