set_option maxRecDepth 100000 in
set_option maxHeartbeats 4000000 in
theorem ct_X5_setTerm {l : Launch} {D : va_G} {s0 s1 s2 s3 s4 : Nat} {r : Nat → Int32} {vn : Int32} {k : Nat} {v : Int32} (hk : k < 5) : Cf l D yX5_setTerm cX5_setTerm 3 none 0 0 [.ref s0, .int (nI k), .int v] [(s0, .inr (6, [.int (r 0), .ref s1, .ref s2, .ref s3, .ref s4, .int vn])), (s1, .inl (D.1 100, 16, .inl (sE r))), (s2, .inl (D.1 100, 8, .inl (sB r))), (s3, .inl (D.1 100, 5, .inl (sT r))), (s4, .inl (D.1 100, 64, .inl (sG r)))] none [(s0, .inr (6, [.int ((upd r (1 + k) v) 0), .ref s1, .ref s2, .ref s3, .ref s4, .int (vn + nI 1)])), (s1, .inl (D.1 100, 16, .inl (sE (upd r (1 + k) v)))), (s2, .inl (D.1 100, 8, .inl (sB (upd r (1 + k) v)))), (s3, .inl (D.1 100, 5, .inl (sT (upd r (1 + k) v)))), (s4, .inl (D.1 100, 64, .inl (sG (upd r (1 + k) v))))] := by
  refine Ct.ofG (by decide) (Nat.le_of_ble_eq_true rfl) ?_
  intro X hX
  have hX : CX X l D RX5 "setTerm" cX5_setTerm 3 none 0 0 0 0 := hX
  show G X (QF X none [(s0, .inr (6, [.int ((upd r (1 + k) v) 0), .ref s1, .ref s2, .ref s3, .ref s4, .int (vn + nI 1)])), (s1, .inl (D.1 100, 16, .inl (sE (upd r (1 + k) v)))), (s2, .inl (D.1 100, 8, .inl (sB (upd r (1 + k) v)))), (s3, .inl (D.1 100, 5, .inl (sT (upd r (1 + k) v)))), (s4, .inl (D.1 100, 64, .inl (sG (upd r (1 + k) v))))]) [(s0, .inr (6, [.int (r 0), .ref s1, .ref s2, .ref s3, .ref s4, .int vn])), (s1, .inl (D.1 100, 16, .inl (sE r))), (s2, .inl (D.1 100, 8, .inl (sB r))), (s3, .inl (D.1 100, 5, .inl (sT r))), (s4, .inl (D.1 100, 64, .inl (sG r)))] 0 0 0 [some (.ref s0), some (.int (nI k)), some (.int v)] []
  generalize hQ : QF X none [(s0, .inr (6, [.int ((upd r (1 + k) v) 0), .ref s1, .ref s2, .ref s3, .ref s4, .int (vn + nI 1)])), (s1, .inl (D.1 100, 16, .inl (sE (upd r (1 + k) v)))), (s2, .inl (D.1 100, 8, .inl (sB (upd r (1 + k) v)))), (s3, .inl (D.1 100, 5, .inl (sT (upd r (1 + k) v)))), (s4, .inl (D.1 100, 64, .inl (sG (upd r (1 + k) v))))] = Q
  refine g_aload_n hX dX5_setTerm_0 rfl ?_
  refine g_getf hX dX5_setTerm_1 fk_X5_22 0 rfl rfl ?_
  refine g_iload_n hX dX5_setTerm_4 rfl ?_
  refine g_iload_n hX dX5_setTerm_5 rfl ?_
  refine g_iast (ws' := [(s0, .inr (6, [.int (r 0), .ref s1, .ref s2, .ref s3, .ref s4, .int vn])), (s1, .inl (D.1 100, 16, .inl (sE r))), (s2, .inl (D.1 100, 8, .inl (sB r))), (s3, .inl (D.1 100, 5, .inl (upd (sT r) k v))), (s4, .inl (D.1 100, 64, .inl (sG r)))]) hX dX5_setTerm_6 3 rfl (by decide) (by omega) rfl ?_
  refine g_aload_n hX dX5_setTerm_7 rfl ?_
  refine g_dup hX dX5_setTerm_8 rfl ?_
  refine g_getf hX dX5_setTerm_9 fk_X5_28 0 rfl rfl ?_
  refine g_iconst hX dX5_setTerm_12 kn_i_1 ?_
  refine g_iadd hX dX5_setTerm_13 ?_
  refine g_puti (ws' := [(s0, .inr (6, [.int (r 0), .ref s1, .ref s2, .ref s3, .ref s4, .int (vn + (nI 1))])), (s1, .inl (D.1 100, 16, .inl (sE r))), (s2, .inl (D.1 100, 8, .inl (sB r))), (s3, .inl (D.1 100, 5, .inl (upd (sT r) k v))), (s4, .inl (D.1 100, 64, .inl (sG r)))]) hX dX5_setTerm_14 fp_X5_28 0 rfl (Nat.le_of_ble_eq_true rfl) rfl ?_
  subst hQ
  exact g_vret hX dX5_setTerm_17 rfl (by rw [show (upd r (1 + k) v) 0 = r 0 from pk_un (by omega), show sE (upd r (1 + k) v) = sE r from sE_c (fun k h1 h2 => pk_un (by omega)), show sB (upd r (1 + k) v) = sB r from sB_c (fun k h1 h2 => pk_un (by omega)), show sG (upd r (1 + k) v) = sG r from sG_c (fun k h1 h2 => pk_un (by omega)), sT_u hk]) rfl rfl
set_option maxRecDepth 100000 in
set_option maxHeartbeats 4000000 in
theorem ct_X5_setGap {l : Launch} {D : va_G} {s0 s1 s2 s3 s4 : Nat} {r : Nat → Int32} {vn : Int32} {c d : Nat} {x g : Int32} (hx : gG x = g) (hc : c < 8) (hd : d < 8) : Cf l D yX5_setGap cX5_setGap 4 none 0 0 [.ref s0, .int (nI c), .int (nI d), .int g] [(s0, .inr (6, [.int (r 0), .ref s1, .ref s2, .ref s3, .ref s4, .int vn])), (s1, .inl (D.1 100, 16, .inl (sE r))), (s2, .inl (D.1 100, 8, .inl (sB r))), (s3, .inl (D.1 100, 5, .inl (sT r))), (s4, .inl (D.1 100, 64, .inl (sG r)))] none [(s0, .inr (6, [.int ((upd r (94 + 8 * c + d) x) 0), .ref s1, .ref s2, .ref s3, .ref s4, .int (vn + nI 1)])), (s1, .inl (D.1 100, 16, .inl (sE (upd r (94 + 8 * c + d) x)))), (s2, .inl (D.1 100, 8, .inl (sB (upd r (94 + 8 * c + d) x)))), (s3, .inl (D.1 100, 5, .inl (sT (upd r (94 + 8 * c + d) x)))), (s4, .inl (D.1 100, 64, .inl (sG (upd r (94 + 8 * c + d) x))))] := by
  refine Ct.ofG (by decide) (Nat.le_of_ble_eq_true rfl) ?_
  intro X hX
  have hX : CX X l D RX5 "setGap" cX5_setGap 4 none 0 0 0 0 := hX
  show G X (QF X none [(s0, .inr (6, [.int ((upd r (94 + 8 * c + d) x) 0), .ref s1, .ref s2, .ref s3, .ref s4, .int (vn + nI 1)])), (s1, .inl (D.1 100, 16, .inl (sE (upd r (94 + 8 * c + d) x)))), (s2, .inl (D.1 100, 8, .inl (sB (upd r (94 + 8 * c + d) x)))), (s3, .inl (D.1 100, 5, .inl (sT (upd r (94 + 8 * c + d) x)))), (s4, .inl (D.1 100, 64, .inl (sG (upd r (94 + 8 * c + d) x))))]) [(s0, .inr (6, [.int (r 0), .ref s1, .ref s2, .ref s3, .ref s4, .int vn])), (s1, .inl (D.1 100, 16, .inl (sE r))), (s2, .inl (D.1 100, 8, .inl (sB r))), (s3, .inl (D.1 100, 5, .inl (sT r))), (s4, .inl (D.1 100, 64, .inl (sG r)))] 0 0 0 [some (.ref s0), some (.int (nI c)), some (.int (nI d)), some (.int g)] []
  generalize hQ : QF X none [(s0, .inr (6, [.int ((upd r (94 + 8 * c + d) x) 0), .ref s1, .ref s2, .ref s3, .ref s4, .int (vn + nI 1)])), (s1, .inl (D.1 100, 16, .inl (sE (upd r (94 + 8 * c + d) x)))), (s2, .inl (D.1 100, 8, .inl (sB (upd r (94 + 8 * c + d) x)))), (s3, .inl (D.1 100, 5, .inl (sT (upd r (94 + 8 * c + d) x)))), (s4, .inl (D.1 100, 64, .inl (sG (upd r (94 + 8 * c + d) x))))] = Q
  refine g_aload_n hX dX5_setGap_0 rfl ?_
  refine g_getf hX dX5_setGap_1 fk_X5_25 0 rfl rfl ?_
  refine g_iload_n hX dX5_setGap_4 rfl ?_
  refine g_bipush hX dX5_setGap_5 kn_b_8 ?_
  refine g_imulN hX dX5_setGap_7 ?_
  refine g_iload_n hX dX5_setGap_8 rfl ?_
  refine g_iaddN hX dX5_setGap_9 ?_
  refine g_iload_n hX dX5_setGap_10 rfl ?_
  refine g_iast (ws' := [(s0, .inr (6, [.int (r 0), .ref s1, .ref s2, .ref s3, .ref s4, .int vn])), (s1, .inl (D.1 100, 16, .inl (sE r))), (s2, .inl (D.1 100, 8, .inl (sB r))), (s3, .inl (D.1 100, 5, .inl (sT r))), (s4, .inl (D.1 100, 64, .inl (upd (sG r) ((c * 8) + d) g)))]) hX dX5_setGap_11 4 rfl (by decide) (by omega) rfl ?_
  refine g_aload_n hX dX5_setGap_12 rfl ?_
  refine g_dup hX dX5_setGap_13 rfl ?_
  refine g_getf hX dX5_setGap_14 fk_X5_28 0 rfl rfl ?_
  refine g_iconst hX dX5_setGap_17 kn_i_1 ?_
  refine g_iadd hX dX5_setGap_18 ?_
  refine g_puti (ws' := [(s0, .inr (6, [.int (r 0), .ref s1, .ref s2, .ref s3, .ref s4, .int (vn + (nI 1))])), (s1, .inl (D.1 100, 16, .inl (sE r))), (s2, .inl (D.1 100, 8, .inl (sB r))), (s3, .inl (D.1 100, 5, .inl (sT r))), (s4, .inl (D.1 100, 64, .inl (upd (sG r) ((c * 8) + d) g)))]) hX dX5_setGap_19 fp_X5_28 0 rfl (Nat.le_of_ble_eq_true rfl) rfl ?_
  subst hQ
  exact g_vret hX dX5_setGap_22 rfl (by rw [show (upd r (94 + 8 * c + d) x) 0 = r 0 from pk_un (by omega), show sE (upd r (94 + 8 * c + d) x) = sE r from sE_c (fun k h1 h2 => pk_un (by omega)), show sB (upd r (94 + 8 * c + d) x) = sB r from sB_c (fun k h1 h2 => pk_un (by omega)), show sT (upd r (94 + 8 * c + d) x) = sT r from sT_c (fun k h1 h2 => pk_un (by omega)), sG_u hc hd hx]) rfl rfl
set_option maxRecDepth 100000 in
set_option maxHeartbeats 4000000 in
theorem ct_X5_copyFrom {l : Launch} {D : va_G} {s0 s1 s2 s3 s4 : Nat} {r : Nat → Int32} {vn : Int32} {o0 o1 o2 o3 o4 : Nat} {q : Nat → Int32} {vo : Int32}  : Cf l D yX5_copyFrom cX5_copyFrom 2 none 1 100 [.ref s0, .ref o0] [(s0, .inr (6, [.int (r 0), .ref s1, .ref s2, .ref s3, .ref s4, .int vn])), (s1, .inl (D.1 100, 16, .inl (sE r))), (s2, .inl (D.1 100, 8, .inl (sB r))), (s3, .inl (D.1 100, 5, .inl (sT r))), (s4, .inl (D.1 100, 64, .inl (sG r))), (o0, .inr (6, [.int (q 0), .ref o1, .ref o2, .ref o3, .ref o4, .int vo])), (o1, .inl (D.1 100, 16, .inl (sE q))), (o2, .inl (D.1 100, 8, .inl (sB q))), (o3, .inl (D.1 100, 5, .inl (sT q))), (o4, .inl (D.1 100, 64, .inl (sG q)))] none [(s0, .inr (6, [.int (q 0), .ref s1, .ref s2, .ref s3, .ref s4, .int (vn + nI 1)])), (s1, .inl (D.1 100, 16, .inl (sE q))), (s2, .inl (D.1 100, 8, .inl (sB q))), (s3, .inl (D.1 100, 5, .inl (sT q))), (s4, .inl (D.1 100, 64, .inl (sG q))), (o0, .inr (6, [.int (q 0), .ref o1, .ref o2, .ref o3, .ref o4, .int vo])), (o1, .inl (D.1 100, 16, .inl (sE q))), (o2, .inl (D.1 100, 8, .inl (sB q))), (o3, .inl (D.1 100, 5, .inl (sT q))), (o4, .inl (D.1 100, 64, .inl (sG q)))] := by
  refine Ct.ofG (by decide) (Nat.le_of_ble_eq_true rfl) ?_
  intro X hX
  have hX : CX X l D RX5 "copyFrom" cX5_copyFrom 2 none 1 100 0 0 := hX
  show G X (QF X none [(s0, .inr (6, [.int (q 0), .ref s1, .ref s2, .ref s3, .ref s4, .int (vn + nI 1)])), (s1, .inl (D.1 100, 16, .inl (sE q))), (s2, .inl (D.1 100, 8, .inl (sB q))), (s3, .inl (D.1 100, 5, .inl (sT q))), (s4, .inl (D.1 100, 64, .inl (sG q))), (o0, .inr (6, [.int (q 0), .ref o1, .ref o2, .ref o3, .ref o4, .int vo])), (o1, .inl (D.1 100, 16, .inl (sE q))), (o2, .inl (D.1 100, 8, .inl (sB q))), (o3, .inl (D.1 100, 5, .inl (sT q))), (o4, .inl (D.1 100, 64, .inl (sG q)))]) [(s0, .inr (6, [.int (r 0), .ref s1, .ref s2, .ref s3, .ref s4, .int vn])), (s1, .inl (D.1 100, 16, .inl (sE r))), (s2, .inl (D.1 100, 8, .inl (sB r))), (s3, .inl (D.1 100, 5, .inl (sT r))), (s4, .inl (D.1 100, 64, .inl (sG r))), (o0, .inr (6, [.int (q 0), .ref o1, .ref o2, .ref o3, .ref o4, .int vo])), (o1, .inl (D.1 100, 16, .inl (sE q))), (o2, .inl (D.1 100, 8, .inl (sB q))), (o3, .inl (D.1 100, 5, .inl (sT q))), (o4, .inl (D.1 100, 64, .inl (sG q)))] 0 0 0 [some (.ref s0), some (.ref o0)] []
  generalize hQ : QF X none [(s0, .inr (6, [.int (q 0), .ref s1, .ref s2, .ref s3, .ref s4, .int (vn + nI 1)])), (s1, .inl (D.1 100, 16, .inl (sE q))), (s2, .inl (D.1 100, 8, .inl (sB q))), (s3, .inl (D.1 100, 5, .inl (sT q))), (s4, .inl (D.1 100, 64, .inl (sG q))), (o0, .inr (6, [.int (q 0), .ref o1, .ref o2, .ref o3, .ref o4, .int vo])), (o1, .inl (D.1 100, 16, .inl (sE q))), (o2, .inl (D.1 100, 8, .inl (sB q))), (o3, .inl (D.1 100, 5, .inl (sT q))), (o4, .inl (D.1 100, 64, .inl (sG q)))] = Q
  refine g_aload_n hX dX5_copyFrom_0 rfl ?_
  refine g_aload_n hX dX5_copyFrom_1 rfl ?_
  refine g_getf hX dX5_copyFrom_2 fk_X5_9 5 rfl rfl ?_
  refine g_puti (ws' := [(s0, .inr (6, [.int (q 0), .ref s1, .ref s2, .ref s3, .ref s4, .int vn])), (s1, .inl (D.1 100, 16, .inl (sE r))), (s2, .inl (D.1 100, 8, .inl (sB r))), (s3, .inl (D.1 100, 5, .inl (sT r))), (s4, .inl (D.1 100, 64, .inl (sG r))), (o0, .inr (6, [.int (q 0), .ref o1, .ref o2, .ref o3, .ref o4, .int vo])), (o1, .inl (D.1 100, 16, .inl (sE q))), (o2, .inl (D.1 100, 8, .inl (sB q))), (o3, .inl (D.1 100, 5, .inl (sT q))), (o4, .inl (D.1 100, 64, .inl (sG q)))]) hX dX5_copyFrom_5 fp_X5_9 0 rfl (Nat.le_of_ble_eq_true rfl) rfl ?_
  refine g_aload_n hX dX5_copyFrom_8 rfl ?_
  refine g_getf hX dX5_copyFrom_9 fk_X5_15 5 rfl rfl ?_
  refine g_iconst hX dX5_copyFrom_12 kn_i_0 ?_
  refine g_aload_n hX dX5_copyFrom_13 rfl ?_
  refine g_getf hX dX5_copyFrom_14 fk_X5_15 0 rfl rfl ?_
  refine g_iconst hX dX5_copyFrom_17 kn_i_0 ?_
  refine g_aload_n hX dX5_copyFrom_18 rfl ?_
  refine g_getf hX dX5_copyFrom_19 fk_X5_15 0 rfl rfl ?_
  refine g_aleni hX dX5_copyFrom_22 1 rfl ?_
  refine g_copyi (ws' := [(s0, .inr (6, [.int (q 0), .ref s1, .ref s2, .ref s3, .ref s4, .int vn])), (s1, .inl (D.1 100, 16, .inl (va_cpy (sE q) (sE r) 0 0 16))), (s2, .inl (D.1 100, 8, .inl (sB r))), (s3, .inl (D.1 100, 5, .inl (sT r))), (s4, .inl (D.1 100, 64, .inl (sG r))), (o0, .inr (6, [.int (q 0), .ref o1, .ref o2, .ref o3, .ref o4, .int vo])), (o1, .inl (D.1 100, 16, .inl (sE q))), (o2, .inl (D.1 100, 8, .inl (sB q))), (o3, .inl (D.1 100, 5, .inl (sT q))), (o4, .inl (D.1 100, 64, .inl (sG q)))]) hX dX5_copyFrom_23 ml_X5_31 tw_an tw_as tw_ini_J10 6 1 rfl rfl (by decide) (by decide) (by omega) (by omega) (by decide) (Nat.le_of_ble_eq_true rfl) rfl ?_
  refine g_aload_n hX dX5_copyFrom_26 rfl ?_
  refine g_getf hX dX5_copyFrom_27 fk_X5_19 5 rfl rfl ?_
  refine g_iconst hX dX5_copyFrom_30 kn_i_0 ?_
  refine g_aload_n hX dX5_copyFrom_31 rfl ?_
  refine g_getf hX dX5_copyFrom_32 fk_X5_19 0 rfl rfl ?_
  refine g_iconst hX dX5_copyFrom_35 kn_i_0 ?_
  refine g_aload_n hX dX5_copyFrom_36 rfl ?_
  refine g_getf hX dX5_copyFrom_37 fk_X5_19 0 rfl rfl ?_
  refine g_aleni hX dX5_copyFrom_40 2 rfl ?_
  refine g_copyi (ws' := [(s0, .inr (6, [.int (q 0), .ref s1, .ref s2, .ref s3, .ref s4, .int vn])), (s1, .inl (D.1 100, 16, .inl (va_cpy (sE q) (sE r) 0 0 16))), (s2, .inl (D.1 100, 8, .inl (va_cpy (sB q) (sB r) 0 0 8))), (s3, .inl (D.1 100, 5, .inl (sT r))), (s4, .inl (D.1 100, 64, .inl (sG r))), (o0, .inr (6, [.int (q 0), .ref o1, .ref o2, .ref o3, .ref o4, .int vo])), (o1, .inl (D.1 100, 16, .inl (sE q))), (o2, .inl (D.1 100, 8, .inl (sB q))), (o3, .inl (D.1 100, 5, .inl (sT q))), (o4, .inl (D.1 100, 64, .inl (sG q)))]) hX dX5_copyFrom_41 ml_X5_31 tw_an tw_as tw_ini_J10 7 2 rfl rfl (by decide) (by decide) (by omega) (by omega) (by decide) (Nat.le_of_ble_eq_true rfl) rfl ?_
  refine g_aload_n hX dX5_copyFrom_44 rfl ?_
  refine g_getf hX dX5_copyFrom_45 fk_X5_22 5 rfl rfl ?_
  refine g_iconst hX dX5_copyFrom_48 kn_i_0 ?_
  refine g_aload_n hX dX5_copyFrom_49 rfl ?_
  refine g_getf hX dX5_copyFrom_50 fk_X5_22 0 rfl rfl ?_
  refine g_iconst hX dX5_copyFrom_53 kn_i_0 ?_
  refine g_aload_n hX dX5_copyFrom_54 rfl ?_
  refine g_getf hX dX5_copyFrom_55 fk_X5_22 0 rfl rfl ?_
  refine g_aleni hX dX5_copyFrom_58 3 rfl ?_
  refine g_copyi (ws' := [(s0, .inr (6, [.int (q 0), .ref s1, .ref s2, .ref s3, .ref s4, .int vn])), (s1, .inl (D.1 100, 16, .inl (va_cpy (sE q) (sE r) 0 0 16))), (s2, .inl (D.1 100, 8, .inl (va_cpy (sB q) (sB r) 0 0 8))), (s3, .inl (D.1 100, 5, .inl (va_cpy (sT q) (sT r) 0 0 5))), (s4, .inl (D.1 100, 64, .inl (sG r))), (o0, .inr (6, [.int (q 0), .ref o1, .ref o2, .ref o3, .ref o4, .int vo])), (o1, .inl (D.1 100, 16, .inl (sE q))), (o2, .inl (D.1 100, 8, .inl (sB q))), (o3, .inl (D.1 100, 5, .inl (sT q))), (o4, .inl (D.1 100, 64, .inl (sG q)))]) hX dX5_copyFrom_59 ml_X5_31 tw_an tw_as tw_ini_J10 8 3 rfl rfl (by decide) (by decide) (by omega) (by omega) (by decide) (Nat.le_of_ble_eq_true rfl) rfl ?_
  refine g_aload_n hX dX5_copyFrom_62 rfl ?_
  refine g_getf hX dX5_copyFrom_63 fk_X5_25 5 rfl rfl ?_
  refine g_iconst hX dX5_copyFrom_66 kn_i_0 ?_
  refine g_aload_n hX dX5_copyFrom_67 rfl ?_
  refine g_getf hX dX5_copyFrom_68 fk_X5_25 0 rfl rfl ?_
  refine g_iconst hX dX5_copyFrom_71 kn_i_0 ?_
  refine g_aload_n hX dX5_copyFrom_72 rfl ?_
  refine g_getf hX dX5_copyFrom_73 fk_X5_25 0 rfl rfl ?_
  refine g_aleni hX dX5_copyFrom_76 4 rfl ?_
  refine g_copyi (ws' := [(s0, .inr (6, [.int (q 0), .ref s1, .ref s2, .ref s3, .ref s4, .int vn])), (s1, .inl (D.1 100, 16, .inl (va_cpy (sE q) (sE r) 0 0 16))), (s2, .inl (D.1 100, 8, .inl (va_cpy (sB q) (sB r) 0 0 8))), (s3, .inl (D.1 100, 5, .inl (va_cpy (sT q) (sT r) 0 0 5))), (s4, .inl (D.1 100, 64, .inl (va_cpy (sG q) (sG r) 0 0 64))), (o0, .inr (6, [.int (q 0), .ref o1, .ref o2, .ref o3, .ref o4, .int vo])), (o1, .inl (D.1 100, 16, .inl (sE q))), (o2, .inl (D.1 100, 8, .inl (sB q))), (o3, .inl (D.1 100, 5, .inl (sT q))), (o4, .inl (D.1 100, 64, .inl (sG q)))]) hX dX5_copyFrom_77 ml_X5_31 tw_an tw_as tw_ini_J10 9 4 rfl rfl (by decide) (by decide) (by omega) (by omega) (by decide) (Nat.le_of_ble_eq_true rfl) rfl ?_
  refine g_aload_n hX dX5_copyFrom_80 rfl ?_
  refine g_dup hX dX5_copyFrom_81 rfl ?_
  refine g_getf hX dX5_copyFrom_82 fk_X5_28 0 rfl rfl ?_
  refine g_iconst hX dX5_copyFrom_85 kn_i_1 ?_
  refine g_iadd hX dX5_copyFrom_86 ?_
  refine g_puti (ws' := [(s0, .inr (6, [.int (q 0), .ref s1, .ref s2, .ref s3, .ref s4, .int (vn + (nI 1))])), (s1, .inl (D.1 100, 16, .inl (va_cpy (sE q) (sE r) 0 0 16))), (s2, .inl (D.1 100, 8, .inl (va_cpy (sB q) (sB r) 0 0 8))), (s3, .inl (D.1 100, 5, .inl (va_cpy (sT q) (sT r) 0 0 5))), (s4, .inl (D.1 100, 64, .inl (va_cpy (sG q) (sG r) 0 0 64))), (o0, .inr (6, [.int (q 0), .ref o1, .ref o2, .ref o3, .ref o4, .int vo])), (o1, .inl (D.1 100, 16, .inl (sE q))), (o2, .inl (D.1 100, 8, .inl (sB q))), (o3, .inl (D.1 100, 5, .inl (sT q))), (o4, .inl (D.1 100, 64, .inl (sG q)))]) hX dX5_copyFrom_87 fp_X5_28 0 rfl (Nat.le_of_ble_eq_true rfl) rfl ?_
  subst hQ
  exact g_vret hX dX5_copyFrom_90 rfl (by rw [cpy_all (sE_o (r := q) (q := r)), cpy_all (sB_o (r := q) (q := r)), cpy_all (sT_o (r := q) (q := r)), cpy_all (sG_o (r := q) (q := r))]) rfl rfl
