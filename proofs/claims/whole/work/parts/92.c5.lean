set_option maxRecDepth 100000 in
set_option maxHeartbeats 4000000 in
theorem ct_J6_bitCount_0f7a4 {l : Launch} {D : va_G} {k : Int32}  : Cf l D yJ6_bitCount_0f7a4 cJ6_bitCount_0f7a4 1 (some .int) 0 0 [.int k] [] (some (.int (bcI k))) [] := by
  refine Ct.ofG (by decide) (Nat.le_of_ble_eq_true rfl) ?_
  intro X hX
  have hX : CX X l D RJ6 "bitCount" cJ6_bitCount_0f7a4 1 (some .int) 0 0 0 0 := hX
  show G X (QF X (some (.int (bcI k))) []) [] 0 0 0 [some (.int k)] []
  generalize hQ : QF X (some (.int (bcI k))) [] = Q
  refine g_iload_n hX dJ6_bitCount_0f7a4_0 rfl ?_
  refine g_iload_n hX dJ6_bitCount_0f7a4_1 rfl ?_
  refine g_iconst hX dJ6_bitCount_0f7a4_2 kn_i_1 ?_
  refine g_iushr hX dJ6_bitCount_0f7a4_3 ?_
  refine g_ldcw hX dJ6_bitCount_0f7a4_4 kc_J6_265 ?_
  refine g_iand hX dJ6_bitCount_0f7a4_7 ?_
  refine g_isub hX dJ6_bitCount_0f7a4_8 ?_
  refine g_top (v' := (bc1 k)) (rfl) ?_
  refine g_istore_n (L' := [some (.int (bc1 k))]) hX dJ6_bitCount_0f7a4_9 (by decide) rfl ?_
  refine g_iload_n hX dJ6_bitCount_0f7a4_10 rfl ?_
  refine g_ldcw hX dJ6_bitCount_0f7a4_11 kc_J6_266 ?_
  refine g_iand hX dJ6_bitCount_0f7a4_14 ?_
  refine g_iload_n hX dJ6_bitCount_0f7a4_15 rfl ?_
  refine g_iconst hX dJ6_bitCount_0f7a4_16 kn_i_2 ?_
  refine g_iushr hX dJ6_bitCount_0f7a4_17 ?_
  refine g_ldcw hX dJ6_bitCount_0f7a4_18 kc_J6_266 ?_
  refine g_iand hX dJ6_bitCount_0f7a4_21 ?_
  refine g_iadd hX dJ6_bitCount_0f7a4_22 ?_
  refine g_top (v' := (bc2 (bc1 k))) (rfl) ?_
  refine g_istore_n (L' := [some (.int (bc2 (bc1 k)))]) hX dJ6_bitCount_0f7a4_23 (by decide) rfl ?_
  refine g_iload_n hX dJ6_bitCount_0f7a4_24 rfl ?_
  refine g_iload_n hX dJ6_bitCount_0f7a4_25 rfl ?_
  refine g_iconst hX dJ6_bitCount_0f7a4_26 kn_i_4 ?_
  refine g_iushr hX dJ6_bitCount_0f7a4_27 ?_
  refine g_iadd hX dJ6_bitCount_0f7a4_28 ?_
  refine g_ldcw hX dJ6_bitCount_0f7a4_29 kc_J6_267 ?_
  refine g_iand hX dJ6_bitCount_0f7a4_32 ?_
  refine g_top (v' := (bc3 (bc2 (bc1 k)))) (rfl) ?_
  refine g_istore_n (L' := [some (.int (bc3 (bc2 (bc1 k))))]) hX dJ6_bitCount_0f7a4_33 (by decide) rfl ?_
  refine g_iload_n hX dJ6_bitCount_0f7a4_34 rfl ?_
  refine g_iload_n hX dJ6_bitCount_0f7a4_35 rfl ?_
  refine g_bipush hX dJ6_bitCount_0f7a4_36 kn_b_8 ?_
  refine g_iushr hX dJ6_bitCount_0f7a4_38 ?_
  refine g_iadd hX dJ6_bitCount_0f7a4_39 ?_
  refine g_top (v' := (bc4 (bc3 (bc2 (bc1 k))))) (rfl) ?_
  refine g_istore_n (L' := [some (.int (bc4 (bc3 (bc2 (bc1 k)))))]) hX dJ6_bitCount_0f7a4_40 (by decide) rfl ?_
  refine g_iload_n hX dJ6_bitCount_0f7a4_41 rfl ?_
  refine g_iload_n hX dJ6_bitCount_0f7a4_42 rfl ?_
  refine g_bipush hX dJ6_bitCount_0f7a4_43 kn_b_16 ?_
  refine g_iushr hX dJ6_bitCount_0f7a4_45 ?_
  refine g_iadd hX dJ6_bitCount_0f7a4_46 ?_
  refine g_top (v' := (bc5 (bc4 (bc3 (bc2 (bc1 k)))))) (rfl) ?_
  refine g_istore_n (L' := [some (.int (bc5 (bc4 (bc3 (bc2 (bc1 k))))))]) hX dJ6_bitCount_0f7a4_47 (by decide) rfl ?_
  refine g_iload_n hX dJ6_bitCount_0f7a4_48 rfl ?_
  refine g_bipush hX dJ6_bitCount_0f7a4_49 kn_b_63 ?_
  refine g_iand hX dJ6_bitCount_0f7a4_51 ?_
  subst hQ
  exact g_iret hX dJ6_bitCount_0f7a4_52 (rfl) (rfl) rfl rfl
set_option maxRecDepth 100000 in
set_option maxHeartbeats 4000000 in
theorem ct_X5_countKnown {l : Launch} {D : va_G} {s0 s1 s2 s3 s4 : Nat} {kk vn : Int32} (hk : ∃ m : Nat, m < 256 ∧ kk = nI m) : Cf l D yX5_countKnown cX5_countKnown 1 (some .int) 1 20 [.ref s0] [(s0, .inr (6, [.int kk, .ref s1, .ref s2, .ref s3, .ref s4, .int vn]))] (some (.int (onesTo kk 8))) [(s0, .inr (6, [.int kk, .ref s1, .ref s2, .ref s3, .ref s4, .int vn]))] := by
  refine Ct.ofG (by decide) (Nat.le_of_ble_eq_true rfl) ?_
  intro X hX
  have hX : CX X l D RX5 "countKnown" cX5_countKnown 1 (some .int) 1 20 0 0 := hX
  show G X (QF X (some (.int (onesTo kk 8))) [(s0, .inr (6, [.int kk, .ref s1, .ref s2, .ref s3, .ref s4, .int vn]))]) [(s0, .inr (6, [.int kk, .ref s1, .ref s2, .ref s3, .ref s4, .int vn]))] 0 0 0 [some (.ref s0)] []
  generalize hQ : QF X (some (.int (onesTo kk 8))) [(s0, .inr (6, [.int kk, .ref s1, .ref s2, .ref s3, .ref s4, .int vn]))] = Q
  refine g_aload_n hX dX5_countKnown_0 rfl ?_
  refine g_getf hX dX5_countKnown_1 fk_X5_9 0 rfl rfl ?_
  refine g_callSRi hX dX5_countKnown_4 cw_X5_41 ct_J6_bitCount_0f7a4 [] rfl rfl (by decide) rfl ⟨by decide, by decide⟩ (Nat.le_of_ble_eq_true rfl) (Nat.le_refl _) (Nat.le_refl _) ?_
  subst hQ
  exact g_iret hX dX5_countKnown_7 (iR (by obtain ⟨m, h1, h2⟩ := hk; rw [h2]; exact (bcI_ones m h1).symm)) (rfl) rfl rfl
