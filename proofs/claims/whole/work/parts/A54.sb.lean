set_option maxRecDepth 100000 in
set_option maxHeartbeats 4000000 in
theorem ct_J5_isLatin1_aae02 {l : Launch} {D : va_G} {sb vb : Nat} {xs : List Int32}  : Cf l D yJ5_isLatin1_aae02 cJ5_isLatin1_aae02 1 (some .boolean) 0 0 [.ref sb] [(sb, .inr (0, [.ref vb, .int (nI 0), .int 0, .int (nI xs.length)]))] (some (.int (bI true))) [(sb, .inr (0, [.ref vb, .int (nI 0), .int 0, .int (nI xs.length)]))] := by
  refine Ct.ofG (by decide) (Nat.le_of_ble_eq_true rfl) ?_
  intro X hX
  have hX : CX X l D RJ5 "isLatin1" cJ5_isLatin1_aae02 1 (some .boolean) 0 0 0 0 := hX
  show G X (QF X (some (.int (bI true))) [(sb, .inr (0, [.ref vb, .int (nI 0), .int 0, .int (nI xs.length)]))]) [(sb, .inr (0, [.ref vb, .int (nI 0), .int 0, .int (nI xs.length)]))] 0 0 0 [some (.ref sb)] []
  generalize hQ : QF X (some (.int (bI true))) [(sb, .inr (0, [.ref vb, .int (nI 0), .int 0, .int (nI xs.length)]))] = Q
  refine g_stat hX dJ5_isLatin1_aae02_0 fs_J5_18 hX.compact ?_
  refine g_if_eq (tgt := 17) hX dJ5_isLatin1_aae02_3 (by decide) (fun h => absurd h (by decide)) (fun _ => ?_)
  refine g_aload_n hX dJ5_isLatin1_aae02_6 rfl ?_
  refine g_getf hX dJ5_isLatin1_aae02_7 fk_J5_22 0 rfl rfl ?_
  refine g_if_ne (tgt := 17) hX dJ5_isLatin1_aae02_10 (by decide) (fun h => absurd (by decide) h) (fun _ => ?_)
  refine g_iconst hX dJ5_isLatin1_aae02_13 kn_i_1 ?_
  refine g_goto (tgt := 18) hX dJ5_isLatin1_aae02_14 (by decide) ?_
  subst hQ
  exact g_zret true hX dJ5_isLatin1_aae02_18 (by decide) (rfl) (rfl) rfl rfl
set_option maxRecDepth 100000 in
set_option maxHeartbeats 4000000 in
theorem ct_J5_ensureCapacityInternal_d00df {l : Launch} {D : va_G} {sb vb : Nat} {xs : List Int32} {q : Nat} (hq : q ≤ 16) : Cf l D yJ5_ensureCapacityInternal_d00df cJ5_ensureCapacityInternal_d00df 3 none 0 0 [.ref sb, .int (nI q)] [(sb, .inr (0, [.ref vb, .int (nI 0), .int 0, .int (nI xs.length)])), (vb, .inl (D.1 104, 16, .inl (sbB xs)))] none [(sb, .inr (0, [.ref vb, .int (nI 0), .int 0, .int (nI xs.length)])), (vb, .inl (D.1 104, 16, .inl (sbB xs)))] := by
  refine Ct.ofG (by decide) (Nat.le_of_ble_eq_true rfl) ?_
  intro X hX
  have hX : CX X l D RJ5 "ensureCapacityInternal" cJ5_ensureCapacityInternal_d00df 3 none 0 0 0 0 := hX
  show G X (QF X none [(sb, .inr (0, [.ref vb, .int (nI 0), .int 0, .int (nI xs.length)])), (vb, .inl (D.1 104, 16, .inl (sbB xs)))]) [(sb, .inr (0, [.ref vb, .int (nI 0), .int 0, .int (nI xs.length)])), (vb, .inl (D.1 104, 16, .inl (sbB xs)))] 0 0 0 [some (.ref sb), some (.int (nI q)), none] []
  generalize hQ : QF X none [(sb, .inr (0, [.ref vb, .int (nI 0), .int 0, .int (nI xs.length)])), (vb, .inl (D.1 104, 16, .inl (sbB xs)))] = Q
  refine g_aload_n hX dJ5_ensureCapacityInternal_d00df_0 rfl ?_
  refine g_getf hX dJ5_ensureCapacityInternal_d00df_1 fk_J5_15 0 rfl rfl ?_
  refine g_alenb hX dJ5_ensureCapacityInternal_d00df_4 1 rfl ?_
  refine g_aload_n hX dJ5_ensureCapacityInternal_d00df_5 rfl ?_
  refine g_getf hX dJ5_ensureCapacityInternal_d00df_6 fk_J5_22 0 rfl rfl ?_
  refine g_ishr hX dJ5_ensureCapacityInternal_d00df_9 ?_
  refine g_top (v' := nI 16) (by decide) ?_
  refine g_istore_n (L' := [some (.ref sb), some (.int (nI q)), some (.int (nI 16))]) hX dJ5_ensureCapacityInternal_d00df_10 (by decide) rfl ?_
  refine g_iload_n hX dJ5_ensureCapacityInternal_d00df_11 rfl ?_
  refine g_iload_n hX dJ5_ensureCapacityInternal_d00df_12 rfl ?_
  refine g_isub hX dJ5_ensureCapacityInternal_d00df_13 ?_
  refine g_if_le (tgt := 38) hX dJ5_ensureCapacityInternal_d00df_14 (by decide) (fun h14 => ?_) (fun h => absurd (sb_le hq) h)
  subst hQ
  exact g_vret hX dJ5_ensureCapacityInternal_d00df_38 rfl (rfl) rfl rfl
set_option maxRecDepth 100000 in
set_option maxHeartbeats 4000000 in
theorem ct_J1_canEncode_fc78d {l : Launch} {D : va_G} {c : Nat} (hc : c < 128) : Cf l D yJ1_canEncode_fc78d cJ1_canEncode_fc78d 1 (some .boolean) 0 0 [.int (nI c)] [] (some (.int (bI true))) [] := by
  refine Ct.ofG (by decide) (Nat.le_of_ble_eq_true rfl) ?_
  intro X hX
  have hX : CX X l D RJ1 "canEncode" cJ1_canEncode_fc78d 1 (some .boolean) 0 0 0 0 := hX
  show G X (QF X (some (.int (bI true))) []) [] 0 0 0 [some (.int (nI c))] []
  generalize hQ : QF X (some (.int (bI true))) [] = Q
  refine g_iload_n hX dJ1_canEncode_fc78d_0 rfl ?_
  refine g_sipush hX dJ1_canEncode_fc78d_1 kn_s_255 ?_
  refine g_icmpN_gt (tgt := 11) hX dJ1_canEncode_fc78d_4 (by decide) (by omega) (by omega) (fun h => absurd h (by omega)) (fun h4 => ?_)
  refine g_iconst hX dJ1_canEncode_fc78d_7 kn_i_1 ?_
  refine g_goto (tgt := 12) hX dJ1_canEncode_fc78d_8 (by decide) ?_
  subst hQ
  exact g_zret true hX dJ1_canEncode_fc78d_12 (by decide) (rfl) (rfl) rfl rfl
set_option maxRecDepth 100000 in
set_option maxHeartbeats 4000000 in
theorem ct_J5_append_3fe6f {l : Launch} {D : va_G} {sb vb : Nat} {xs : List Int32} {c : Nat} (hc : c < 128) (hn : xs.length + 1 ≤ 16) : Cf l D yJ5_append_3fe6f cJ5_append_3fe6f 2 (some (.object "java/lang/AbstractStringBuilder")) 1 22 [.ref sb, .int (nI c)] [(sb, .inr (0, [.ref vb, .int (nI 0), .int 0, .int (nI xs.length)])), (vb, .inl (D.1 104, 16, .inl (sbB xs)))] (some (.ref sb)) [(sb, .inr (0, [.ref vb, .int (nI 0), .int 0, .int (nI ((xs ++ [nI c]).length))])), (vb, .inl (D.1 104, 16, .inl (sbB (xs ++ [nI c]))))] := by
  refine Ct.ofG (by decide) (Nat.le_of_ble_eq_true rfl) ?_
  intro X hX
  have hX : CX X l D RJ5 "append" cJ5_append_3fe6f 2 (some (.object "java/lang/AbstractStringBuilder")) 1 22 0 0 := hX
  show G X (QF X (some (.ref sb)) [(sb, .inr (0, [.ref vb, .int (nI 0), .int 0, .int (nI ((xs ++ [nI c]).length))])), (vb, .inl (D.1 104, 16, .inl (sbB (xs ++ [nI c]))))]) [(sb, .inr (0, [.ref vb, .int (nI 0), .int 0, .int (nI xs.length)])), (vb, .inl (D.1 104, 16, .inl (sbB xs)))] 0 0 0 [some (.ref sb), some (.int (nI c))] []
  generalize hQ : QF X (some (.ref sb)) [(sb, .inr (0, [.ref vb, .int (nI 0), .int 0, .int (nI ((xs ++ [nI c]).length))])), (vb, .inl (D.1 104, 16, .inl (sbB (xs ++ [nI c]))))] = Q
  refine g_aload_n hX dJ5_append_3fe6f_0 rfl ?_
  refine g_aload_n hX dJ5_append_3fe6f_1 rfl ?_
  refine g_getf hX dJ5_append_3fe6f_2 fk_J5_79 0 rfl rfl ?_
  refine g_iconst hX dJ5_append_3fe6f_5 kn_i_1 ?_
  refine g_iaddN hX dJ5_append_3fe6f_6 ?_
  refine g_callW (n := 1) (C := RJ4) hX dJ5_append_3fe6f_7 cv_J5_100 rfl ⟨by decide, by decide, by decide +kernel⟩ (ct_J5_ensureCapacityInternal_d00df  (by omega)) 0 0 [0, 1] rfl rfl rfl rfl (by decide) rfl (fun _ => rfl) ⟨by decide, by decide⟩ (Nat.le_of_ble_eq_true rfl) ⟨Nat.le_refl _, Nat.le_refl _⟩ (fun vgh ugh hp => ?_)
  obtain rfl := hp
  show G X Q [(sb, .inr (0, [.ref vb, .int (nI 0), .int 0, .int (nI xs.length)])), (vb, .inl (D.1 104, 16, .inl (sbB xs)))] 0 0 10 [some (.ref sb), some (.int (nI c))] []
  refine g_aload_n hX dJ5_append_3fe6f_10 rfl ?_
  refine g_callU (n := 0) (C := RJ4) hX dJ5_append_3fe6f_11 cu_J5_83 rfl ⟨by decide, by decide, by decide +kernel⟩ ct_J5_isLatin1_aae02 0 0 [0] rfl rfl rfl rfl (by decide) rfl (fun _ => rfl) ⟨by decide, by decide⟩ (Nat.le_of_ble_eq_true rfl) ⟨Nat.le_refl _, Nat.le_refl _⟩ (fun vgh ugh hp => ?_)
  obtain rfl := hp
  show G X Q [(sb, .inr (0, [.ref vb, .int (nI 0), .int 0, .int (nI xs.length)])), (vb, .inl (D.1 104, 16, .inl (sbB xs)))] 0 0 14 [some (.ref sb), some (.int (nI c))] [.int (bI true)]
  refine g_ifb_eq (tgt := 45) hX dJ5_append_3fe6f_14 (by decide) (fun h => absurd h (by decide)) (fun h14 => ?_)
  refine g_iload_n hX dJ5_append_3fe6f_17 rfl ?_
  refine g_callSRi hX dJ5_append_3fe6f_18 cw_J5_191 (ct_J1_canEncode_fc78d  (by omega)) [] rfl rfl (by decide) rfl ⟨by decide, by decide⟩ (Nat.le_of_ble_eq_true rfl) (Nat.le_refl _) (Nat.le_refl _) ?_
  refine g_ifb_eq (tgt := 45) hX dJ5_append_3fe6f_21 (by decide) (fun h => absurd h (by decide)) (fun h21 => ?_)
  refine g_aload_n hX dJ5_append_3fe6f_24 rfl ?_
  refine g_getf hX dJ5_append_3fe6f_25 fk_J5_15 0 rfl rfl ?_
  refine g_aload_n hX dJ5_append_3fe6f_28 rfl ?_
  refine g_dup hX dJ5_append_3fe6f_29 rfl ?_
  refine g_getf hX dJ5_append_3fe6f_30 fk_J5_79 0 rfl rfl ?_
  refine g_dup_x1 hX dJ5_append_3fe6f_33 rfl rfl ?_
  refine g_iconst hX dJ5_append_3fe6f_34 kn_i_1 ?_
  refine g_iaddN hX dJ5_append_3fe6f_35 ?_
  refine g_puti (ws' := [(sb, .inr (0, [.ref vb, .int (nI 0), .int 0, .int (nI (xs.length + 1))])), (vb, .inl (D.1 104, 16, .inl (sbB xs)))]) hX dJ5_append_3fe6f_36 fp_J5_79 0 rfl (Nat.le_of_ble_eq_true rfl) rfl ?_
  refine g_iload_n hX dJ5_append_3fe6f_39 rfl ?_
  refine g_i2b hX dJ5_append_3fe6f_40 (i2b_n c hc) ?_
  refine g_bast (ws' := [(sb, .inr (0, [.ref vb, .int (nI 0), .int 0, .int (nI (xs.length + 1))])), (vb, .inl (D.1 104, 16, .inl (upd (sbB xs) xs.length (nI c))))]) hX dJ5_append_3fe6f_41 1 rfl (by decide) (by omega) (narb_n c hc) rfl ?_
  refine g_goto (tgt := 75) hX dJ5_append_3fe6f_42 (by decide) ?_
  refine g_aload_n hX dJ5_append_3fe6f_75 rfl ?_
  subst hQ
  exact g_aretU hX dJ5_append_3fe6f_76 (Or.inl ⟨_, rfl⟩) () (rfl) (by rw [sbB_1, sb_len1]) (Nat.le_refl _) (Nat.le_refl _)
set_option maxRecDepth 100000 in
set_option maxHeartbeats 4000000 in
theorem ct_J4_append_cf468 {l : Launch} {D : va_G} {sb vb : Nat} {xs : List Int32} {c : Nat} (hc : c < 128) (hn : xs.length + 1 ≤ 16) : Cf l D yJ4_append_cf468 cJ4_append_cf468 2 (some (.object "java/lang/StringBuilder")) 2 43 [.ref sb, .int (nI c)] [(sb, .inr (0, [.ref vb, .int (nI 0), .int 0, .int (nI xs.length)])), (vb, .inl (D.1 104, 16, .inl (sbB xs)))] (some (.ref sb)) [(sb, .inr (0, [.ref vb, .int (nI 0), .int 0, .int (nI ((xs ++ [nI c]).length))])), (vb, .inl (D.1 104, 16, .inl (sbB (xs ++ [nI c]))))] := by
  refine Ct.ofG (by decide) (Nat.le_of_ble_eq_true rfl) ?_
  intro X hX
  have hX : CX X l D RJ4 "append" cJ4_append_cf468 2 (some (.object "java/lang/StringBuilder")) 2 43 0 0 := hX
  show G X (QF X (some (.ref sb)) [(sb, .inr (0, [.ref vb, .int (nI 0), .int 0, .int (nI ((xs ++ [nI c]).length))])), (vb, .inl (D.1 104, 16, .inl (sbB (xs ++ [nI c]))))]) [(sb, .inr (0, [.ref vb, .int (nI 0), .int 0, .int (nI xs.length)])), (vb, .inl (D.1 104, 16, .inl (sbB xs)))] 0 0 0 [some (.ref sb), some (.int (nI c))] []
  generalize hQ : QF X (some (.ref sb)) [(sb, .inr (0, [.ref vb, .int (nI 0), .int 0, .int (nI ((xs ++ [nI c]).length))])), (vb, .inl (D.1 104, 16, .inl (sbB (xs ++ [nI c]))))] = Q
  refine g_aload_n hX dJ4_append_cf468_0 rfl ?_
  refine g_iload_n hX dJ4_append_cf468_1 rfl ?_
  refine g_callSU (n := 1) hX dJ4_append_cf468_2 cs_J4_50 ⟨by decide, by decide +kernel⟩ (ct_J5_append_3fe6f  (by omega) (by omega)) 0 0 (C := RJ4) [0, 1] rfl rfl rfl rfl (cat_J4 hX) (by decide) rfl (fun _ => rfl) ⟨by decide, by decide⟩ (Nat.le_of_ble_eq_true rfl) ⟨Nat.le_refl _, Nat.le_refl _⟩ (fun vgh ugh hp => ?_)
  obtain rfl := hp
  show G X Q [(sb, .inr (0, [.ref vb, .int (nI 0), .int 0, .int (nI ((xs ++ [nI c]).length))])), (vb, .inl (D.1 104, 16, .inl (sbB (xs ++ [nI c]))))] 0 0 5 [some (.ref sb), some (.int (nI c))] [.ref sb]
  refine g_pop hX dJ4_append_cf468_5 rfl ?_
  refine g_aload_n hX dJ4_append_cf468_6 rfl ?_
  subst hQ
  exact g_aretU hX dJ4_append_cf468_7 (Or.inl ⟨_, rfl⟩) () (rfl) (rfl) (Nat.le_refl _) (Nat.le_refl _)
set_option maxRecDepth 100000 in
set_option maxHeartbeats 4000000 in
theorem ct_J6_stringSize_0f7a4_P {l : Launch} {D : va_G} {m : Nat} (hm : m < 100) : Cf l D yJ6_stringSize_0f7a4 cJ6_stringSize_0f7a4 4 (some .int) 0 0 [.int (nI m)] [] (some (.int (nI ((numS (nI m)).length)))) [] := by
  refine Ct.ofG (by decide) (Nat.le_of_ble_eq_true rfl) ?_
  intro X hX
  have hX : CX X l D RJ6 "stringSize" cJ6_stringSize_0f7a4 4 (some .int) 0 0 0 0 := hX
  show G X (QF X (some (.int (nI ((numS (nI m)).length)))) []) [] 0 0 0 [some (.int (nI m)), none, none, none] []
  generalize hQ : QF X (some (.int (nI ((numS (nI m)).length)))) [] = Q
  refine g_iconst hX dJ6_stringSize_0f7a4_0 kn_i_1 ?_
  refine g_istore_n (L' := [some (.int (nI m)), some (.int (nI 1)), none, none]) hX dJ6_stringSize_0f7a4_1 (by decide) rfl ?_
  refine g_iload_n hX dJ6_stringSize_0f7a4_2 rfl ?_
  refine g_ifN_lt (tgt := 11) hX dJ6_stringSize_0f7a4_3 (by decide) (by omega) ?_
  refine g_iconst hX dJ6_stringSize_0f7a4_6 kn_i_0 ?_
  refine g_istore_n (L' := [some (.int (nI m)), some (.int (nI 0)), none, none]) hX dJ6_stringSize_0f7a4_7 (by decide) rfl ?_
  refine g_iload_n hX dJ6_stringSize_0f7a4_8 rfl ?_
  refine g_ineg hX dJ6_stringSize_0f7a4_9 ?_
  refine g_istore_n (L' := [some (.int (-(nI m))), some (.int (nI 0)), none, none]) hX dJ6_stringSize_0f7a4_10 (by decide) rfl ?_
  refine g_bipush hX dJ6_stringSize_0f7a4_11 kn_b_m10 ?_
  refine g_istore_n (L' := [some (.int (-(nI m))), some (.int (nI 0)), some (.int (-10)), none]) hX dJ6_stringSize_0f7a4_13 (by decide) rfl ?_
  refine g_iconst hX dJ6_stringSize_0f7a4_14 kn_i_1 ?_
  refine g_istore_n (L' := [some (.int (-(nI m))), some (.int (nI 0)), some (.int (-10)), some (.int (nI 1))]) hX dJ6_stringSize_0f7a4_15 (by decide) rfl ?_
  refine g_iload_n hX dJ6_stringSize_0f7a4_16 rfl ?_
  refine g_bipush hX dJ6_stringSize_0f7a4_17 kn_b_10 ?_
  refine g_icmpN_ge (tgt := 42) hX dJ6_stringSize_0f7a4_19 (by decide) (by decide) (by decide) (fun h => absurd h (by decide)) (fun _ => ?_)
  refine g_iload_n hX dJ6_stringSize_0f7a4_22 rfl ?_
  refine g_iload_n hX dJ6_stringSize_0f7a4_23 rfl ?_
  refine g_icmp_le (tgt := 31) hX dJ6_stringSize_0f7a4_24 (by decide) (fun h24 => ?_) (fun h24 => ?_)
  · skip
    have h24c := ng10y m hm h24
    refine g_bipush hX dJ6_stringSize_0f7a4_31 kn_b_10 ?_
    refine g_iload_n hX dJ6_stringSize_0f7a4_33 rfl ?_
    refine g_imul hX dJ6_stringSize_0f7a4_34 ?_
    refine g_istore_n (L' := [some (.int (-(nI m))), some (.int (nI 0)), some (.int ((nI 10) * (-10))), some (.int (nI 1))]) hX dJ6_stringSize_0f7a4_35 (by decide) rfl ?_
    refine g_iincN (L' := [some (.int (-(nI m))), some (.int (nI 0)), some (.int ((nI 10) * (-10))), some (.int (nI 2))]) hX dJ6_stringSize_0f7a4_36 rfl (by decide) rfl ?_
    refine g_goto (tgt := 16) hX dJ6_stringSize_0f7a4_39 (by decide) ?_
    refine g_iload_n hX dJ6_stringSize_0f7a4_16 rfl ?_
    refine g_bipush hX dJ6_stringSize_0f7a4_17 kn_b_10 ?_
    refine g_icmpN_ge (tgt := 42) hX dJ6_stringSize_0f7a4_19 (by decide) (by decide) (by decide) (fun h => absurd h (by decide)) (fun _ => ?_)
    refine g_iload_n hX dJ6_stringSize_0f7a4_22 rfl ?_
    refine g_iload_n hX dJ6_stringSize_0f7a4_23 rfl ?_
    refine g_icmp_le (tgt := 31) hX dJ6_stringSize_0f7a4_24 (by decide) (fun h => absurd h (ng100 m hm)) (fun h24 => ?_)
    refine g_iload_n hX dJ6_stringSize_0f7a4_27 rfl ?_
    refine g_iload_n hX dJ6_stringSize_0f7a4_28 rfl ?_
    refine g_iaddN hX dJ6_stringSize_0f7a4_29 ?_
    subst hQ
    exact g_iret hX dJ6_stringSize_0f7a4_30 (iR (congrArg (fun z => nI z.length) (numS_2 m hm h24c))) (rfl) rfl rfl
  · skip
    refine g_iload_n hX dJ6_stringSize_0f7a4_27 rfl ?_
    refine g_iload_n hX dJ6_stringSize_0f7a4_28 rfl ?_
    refine g_iaddN hX dJ6_stringSize_0f7a4_29 ?_
    subst hQ
    exact g_iret hX dJ6_stringSize_0f7a4_30 (iR (congrArg (fun z => nI z.length) (numS_1 m (ng10n m hm h24)))) (rfl) rfl rfl
set_option maxRecDepth 100000 in
set_option maxHeartbeats 4000000 in
theorem ct_J6_stringSize_0f7a4_M {l : Launch} {D : va_G} {m : Nat} (hm : m < 100) (hm0 : 0 < m) : Cf l D yJ6_stringSize_0f7a4 cJ6_stringSize_0f7a4 4 (some .int) 0 0 [.int (-(nI m))] [] (some (.int (nI ((numS (-(nI m))).length)))) [] := by
  refine Ct.ofG (by decide) (Nat.le_of_ble_eq_true rfl) ?_
  intro X hX
  have hX : CX X l D RJ6 "stringSize" cJ6_stringSize_0f7a4 4 (some .int) 0 0 0 0 := hX
  show G X (QF X (some (.int (nI ((numS (-(nI m))).length)))) []) [] 0 0 0 [some (.int (-(nI m))), none, none, none] []
  generalize hQ : QF X (some (.int (nI ((numS (-(nI m))).length)))) [] = Q
  refine g_iconst hX dJ6_stringSize_0f7a4_0 kn_i_1 ?_
  refine g_istore_n (L' := [some (.int (-(nI m))), some (.int (nI 1)), none, none]) hX dJ6_stringSize_0f7a4_1 (by decide) rfl ?_
  refine g_iload_n hX dJ6_stringSize_0f7a4_2 rfl ?_
  refine g_if_lt (tgt := 11) hX dJ6_stringSize_0f7a4_3 (by decide) (fun h3 => ?_) (fun h => absurd (nglt m hm hm0) h)
  refine g_bipush hX dJ6_stringSize_0f7a4_11 kn_b_m10 ?_
  refine g_istore_n (L' := [some (.int (-(nI m))), some (.int (nI 1)), some (.int (-10)), none]) hX dJ6_stringSize_0f7a4_13 (by decide) rfl ?_
  refine g_iconst hX dJ6_stringSize_0f7a4_14 kn_i_1 ?_
  refine g_istore_n (L' := [some (.int (-(nI m))), some (.int (nI 1)), some (.int (-10)), some (.int (nI 1))]) hX dJ6_stringSize_0f7a4_15 (by decide) rfl ?_
  refine g_iload_n hX dJ6_stringSize_0f7a4_16 rfl ?_
  refine g_bipush hX dJ6_stringSize_0f7a4_17 kn_b_10 ?_
  refine g_icmpN_ge (tgt := 42) hX dJ6_stringSize_0f7a4_19 (by decide) (by decide) (by decide) (fun h => absurd h (by decide)) (fun _ => ?_)
  refine g_iload_n hX dJ6_stringSize_0f7a4_22 rfl ?_
  refine g_iload_n hX dJ6_stringSize_0f7a4_23 rfl ?_
  refine g_icmp_le (tgt := 31) hX dJ6_stringSize_0f7a4_24 (by decide) (fun h24 => ?_) (fun h24 => ?_)
  · skip
    have h24c := ng10y m hm h24
    refine g_bipush hX dJ6_stringSize_0f7a4_31 kn_b_10 ?_
    refine g_iload_n hX dJ6_stringSize_0f7a4_33 rfl ?_
    refine g_imul hX dJ6_stringSize_0f7a4_34 ?_
    refine g_istore_n (L' := [some (.int (-(nI m))), some (.int (nI 1)), some (.int ((nI 10) * (-10))), some (.int (nI 1))]) hX dJ6_stringSize_0f7a4_35 (by decide) rfl ?_
    refine g_iincN (L' := [some (.int (-(nI m))), some (.int (nI 1)), some (.int ((nI 10) * (-10))), some (.int (nI 2))]) hX dJ6_stringSize_0f7a4_36 rfl (by decide) rfl ?_
    refine g_goto (tgt := 16) hX dJ6_stringSize_0f7a4_39 (by decide) ?_
    refine g_iload_n hX dJ6_stringSize_0f7a4_16 rfl ?_
    refine g_bipush hX dJ6_stringSize_0f7a4_17 kn_b_10 ?_
    refine g_icmpN_ge (tgt := 42) hX dJ6_stringSize_0f7a4_19 (by decide) (by decide) (by decide) (fun h => absurd h (by decide)) (fun _ => ?_)
    refine g_iload_n hX dJ6_stringSize_0f7a4_22 rfl ?_
    refine g_iload_n hX dJ6_stringSize_0f7a4_23 rfl ?_
    refine g_icmp_le (tgt := 31) hX dJ6_stringSize_0f7a4_24 (by decide) (fun h => absurd h (ng100 m hm)) (fun h24 => ?_)
    refine g_iload_n hX dJ6_stringSize_0f7a4_27 rfl ?_
    refine g_iload_n hX dJ6_stringSize_0f7a4_28 rfl ?_
    refine g_iaddN hX dJ6_stringSize_0f7a4_29 ?_
    subst hQ
    exact g_iret hX dJ6_stringSize_0f7a4_30 (iR (congrArg (fun z => nI z.length) (numS_4 m hm h24c))) (rfl) rfl rfl
  · skip
    refine g_iload_n hX dJ6_stringSize_0f7a4_27 rfl ?_
    refine g_iload_n hX dJ6_stringSize_0f7a4_28 rfl ?_
    refine g_iaddN hX dJ6_stringSize_0f7a4_29 ?_
    subst hQ
    exact g_iret hX dJ6_stringSize_0f7a4_30 (iR (congrArg (fun z => nI z.length) (numS_3 m (ng10n m hm h24) hm0))) (rfl) rfl rfl
set_option maxRecDepth 100000 in
set_option maxHeartbeats 4000000 in
theorem ct_J6_getChars_ba4f3_P {l : Launch} {D : va_G} {vb e m : Nat} {f : Nat → Int32} (hm : m < 100) (he : e ≤ 16) (hl : (numS (nI m)).length ≤ e) : Cf l D yJ6_getChars_ba4f3 cJ6_getChars_ba4f3 7 (some .int) 0 0 [.int (nI m), .int (nI e), .ref vb] [(vb, .inl (D.1 104, 16, .inl f))] (some (.int (nI (e - (numS (nI m)).length)))) [(vb, .inl (D.1 104, 16, .inl (putL f (e - (numS (nI m)).length) (numS (nI m)))))] := by
  refine Ct.ofG (by decide) (Nat.le_of_ble_eq_true rfl) ?_
  intro X hX
  have hX : CX X l D RJ6 "getChars" cJ6_getChars_ba4f3 7 (some .int) 0 0 0 0 := hX
  show G X (QF X (some (.int (nI (e - (numS (nI m)).length)))) [(vb, .inl (D.1 104, 16, .inl (putL f (e - (numS (nI m)).length) (numS (nI m)))))]) [(vb, .inl (D.1 104, 16, .inl f))] 0 0 0 [some (.int (nI m)), some (.int (nI e)), some (.ref vb), none, none, none, none] []
  generalize hQ : QF X (some (.int (nI (e - (numS (nI m)).length)))) [(vb, .inl (D.1 104, 16, .inl (putL f (e - (numS (nI m)).length) (numS (nI m)))))] = Q
  refine g_iload_n hX dJ6_getChars_ba4f3_0 rfl ?_
  refine g_istore (L' := [some (.int (nI m)), some (.int (nI e)), some (.ref vb), none, none, some (.int (nI e)), none]) hX dJ6_getChars_ba4f3_1 (by decide) rfl ?_
  refine g_iload_n hX dJ6_getChars_ba4f3_3 rfl ?_
  refine g_ifN_ge (tgt := 11) hX dJ6_getChars_ba4f3_4 (by decide) (by omega) ?_
  refine g_iconst hX dJ6_getChars_ba4f3_11 kn_i_0 ?_
  refine g_istore (L' := [some (.int (nI m)), some (.int (nI e)), some (.ref vb), none, none, some (.int (nI e)), some (.int (nI 0))]) hX dJ6_getChars_ba4f3_12 (by decide) rfl ?_
  refine g_iload hX dJ6_getChars_ba4f3_14 rfl ?_
  refine g_if_ne (tgt := 22) hX dJ6_getChars_ba4f3_16 (by decide) (fun h => absurd (by decide) h) (fun _ => ?_)
  refine g_iload_n hX dJ6_getChars_ba4f3_19 rfl ?_
  refine g_ineg hX dJ6_getChars_ba4f3_20 ?_
  refine g_istore_n (L' := [some (.int (-(nI m))), some (.int (nI e)), some (.ref vb), none, none, some (.int (nI e)), some (.int (nI 0))]) hX dJ6_getChars_ba4f3_21 (by decide) rfl ?_
  refine g_iload_n hX dJ6_getChars_ba4f3_22 rfl ?_
  refine g_bipush hX dJ6_getChars_ba4f3_23 kn_b_m100 ?_
  refine g_icmp_gt (tgt := 72) hX dJ6_getChars_ba4f3_25 (by decide) (fun h25 => ?_) (fun h => absurd (ng100b m hm) h)
  refine g_aload_n hX dJ6_getChars_ba4f3_72 rfl ?_
  have hl1 : 1 ≤ e := Nat.le_trans (numS_len _).1 hl
  refine g_iinc (L' := [some (.int (-(nI m))), some (.int (nI e)), some (.ref vb), none, none, some (.int (nI (e - 1))), some (.int (nI 0))]) hX dJ6_getChars_ba4f3_73 rfl (pk_dec (a := e) (by omega)) (by decide) rfl ?_
  refine g_iload hX dJ6_getChars_ba4f3_76 rfl ?_
  refine g_statA hX dJ6_getChars_ba4f3_78 fs_J6_83 hX.ones (fun t78 hT78 => ?_)
  refine g_iload_n hX dJ6_getChars_ba4f3_81 rfl ?_
  refine g_ineg hX dJ6_getChars_ba4f3_82 ?_
  refine g_top (v' := nI m) (ngg (nI m)) ?_
  refine g_tbld hX dJ6_getChars_ba4f3_83 hT78 (by decide) (by omega) ?_
  refine g_bast (ws' := [(vb, .inl (D.1 104, 16, .inl (upd f (e - 1) (digOne m))))]) hX dJ6_getChars_ba4f3_84 0 rfl (by decide) (by omega) (narb_o m) rfl ?_
  refine g_iload_n hX dJ6_getChars_ba4f3_85 rfl ?_
  refine g_bipush hX dJ6_getChars_ba4f3_86 kn_b_m9 ?_
  refine g_icmp_ge (tgt := 104) hX dJ6_getChars_ba4f3_88 (by decide) (fun h88 => ?_) (fun h88 => ?_)
  · skip
    refine g_iload hX dJ6_getChars_ba4f3_104 rfl ?_
    refine g_if_eq (tgt := 118) hX dJ6_getChars_ba4f3_106 (by decide) (fun _ => ?_) (fun h => absurd (by decide) h)
    refine g_iload hX dJ6_getChars_ba4f3_118 rfl ?_
    subst hQ
    exact g_iret hX dJ6_getChars_ba4f3_120 (iR (by rw [numS_1 m (ng9y m hm h88)]; rfl)) (by rw [numS_1 m (ng9y m hm h88), gc_1 (by omega)]) rfl rfl
  · skip
    have hq2 := ng9n m hm h88
    have hl2 : 2 ≤ e := by rw [numS_2 m hm hq2] at hl; exact hl
    refine g_aload_n hX dJ6_getChars_ba4f3_91 rfl ?_
    refine g_iinc (L' := [some (.int (-(nI m))), some (.int (nI e)), some (.ref vb), none, none, some (.int (nI ((e - 1) - 1))), some (.int (nI 0))]) hX dJ6_getChars_ba4f3_92 rfl (pk_dec (a := e - 1) (by omega)) (by decide) rfl ?_
    refine g_iload hX dJ6_getChars_ba4f3_95 rfl ?_
    refine g_statA hX dJ6_getChars_ba4f3_97 fs_J6_87 hX.tens (fun t97 hT97 => ?_)
    refine g_iload_n hX dJ6_getChars_ba4f3_100 rfl ?_
    refine g_ineg hX dJ6_getChars_ba4f3_101 ?_
    refine g_top (v' := nI m) (ngg (nI m)) ?_
    refine g_tbld hX dJ6_getChars_ba4f3_102 hT97 (by decide) (by omega) ?_
    refine g_bast (ws' := [(vb, .inl (D.1 104, 16, .inl (upd (upd f (e - 1) (digOne m)) ((e - 1) - 1) (digTen m))))]) hX dJ6_getChars_ba4f3_103 0 rfl (by decide) (by omega) (narb_t m hm) rfl ?_
    refine g_iload hX dJ6_getChars_ba4f3_104 rfl ?_
    refine g_if_eq (tgt := 118) hX dJ6_getChars_ba4f3_106 (by decide) (fun _ => ?_) (fun h => absurd (by decide) h)
    refine g_iload hX dJ6_getChars_ba4f3_118 rfl ?_
    subst hQ
    exact g_iret hX dJ6_getChars_ba4f3_120 (iR (by rw [numS_2 m hm (ng9n m hm h88)]; rfl)) (by rw [numS_2 m hm (ng9n m hm h88), gc_2 (by omega)]) rfl rfl
set_option maxRecDepth 100000 in
set_option maxHeartbeats 4000000 in
theorem ct_J6_getChars_ba4f3_M {l : Launch} {D : va_G} {vb e m : Nat} {f : Nat → Int32} (hm : m < 100) (hm0 : 0 < m) (he : e ≤ 16) (hl : (numS (-(nI m))).length ≤ e) : Cf l D yJ6_getChars_ba4f3 cJ6_getChars_ba4f3 7 (some .int) 0 0 [.int (-(nI m)), .int (nI e), .ref vb] [(vb, .inl (D.1 104, 16, .inl f))] (some (.int (nI (e - (numS (-(nI m))).length)))) [(vb, .inl (D.1 104, 16, .inl (putL f (e - (numS (-(nI m))).length) (numS (-(nI m))))))] := by
  refine Ct.ofG (by decide) (Nat.le_of_ble_eq_true rfl) ?_
  intro X hX
  have hX : CX X l D RJ6 "getChars" cJ6_getChars_ba4f3 7 (some .int) 0 0 0 0 := hX
  show G X (QF X (some (.int (nI (e - (numS (-(nI m))).length)))) [(vb, .inl (D.1 104, 16, .inl (putL f (e - (numS (-(nI m))).length) (numS (-(nI m))))))]) [(vb, .inl (D.1 104, 16, .inl f))] 0 0 0 [some (.int (-(nI m))), some (.int (nI e)), some (.ref vb), none, none, none, none] []
  generalize hQ : QF X (some (.int (nI (e - (numS (-(nI m))).length)))) [(vb, .inl (D.1 104, 16, .inl (putL f (e - (numS (-(nI m))).length) (numS (-(nI m))))))] = Q
  refine g_iload_n hX dJ6_getChars_ba4f3_0 rfl ?_
  refine g_istore (L' := [some (.int (-(nI m))), some (.int (nI e)), some (.ref vb), none, none, some (.int (nI e)), none]) hX dJ6_getChars_ba4f3_1 (by decide) rfl ?_
  refine g_iload_n hX dJ6_getChars_ba4f3_3 rfl ?_
  refine g_if_ge (tgt := 11) hX dJ6_getChars_ba4f3_4 (by decide) (fun h => absurd h (ngge m hm hm0)) (fun h4 => ?_)
  refine g_iconst hX dJ6_getChars_ba4f3_7 kn_i_1 ?_
  refine g_goto (tgt := 12) hX dJ6_getChars_ba4f3_8 (by decide) ?_
  refine g_istore (L' := [some (.int (-(nI m))), some (.int (nI e)), some (.ref vb), none, none, some (.int (nI e)), some (.int (nI 1))]) hX dJ6_getChars_ba4f3_12 (by decide) rfl ?_
  refine g_iload hX dJ6_getChars_ba4f3_14 rfl ?_
  refine g_if_ne (tgt := 22) hX dJ6_getChars_ba4f3_16 (by decide) (fun _ => ?_) (fun h => absurd h (by decide))
  refine g_iload_n hX dJ6_getChars_ba4f3_22 rfl ?_
  refine g_bipush hX dJ6_getChars_ba4f3_23 kn_b_m100 ?_
  refine g_icmp_gt (tgt := 72) hX dJ6_getChars_ba4f3_25 (by decide) (fun h25 => ?_) (fun h => absurd (ng100b m hm) h)
  refine g_aload_n hX dJ6_getChars_ba4f3_72 rfl ?_
  have hl1 : 1 ≤ e := Nat.le_trans (numS_len _).1 hl
  refine g_iinc (L' := [some (.int (-(nI m))), some (.int (nI e)), some (.ref vb), none, none, some (.int (nI (e - 1))), some (.int (nI 1))]) hX dJ6_getChars_ba4f3_73 rfl (pk_dec (a := e) (by omega)) (by decide) rfl ?_
  refine g_iload hX dJ6_getChars_ba4f3_76 rfl ?_
  refine g_statA hX dJ6_getChars_ba4f3_78 fs_J6_83 hX.ones (fun t78 hT78 => ?_)
  refine g_iload_n hX dJ6_getChars_ba4f3_81 rfl ?_
  refine g_ineg hX dJ6_getChars_ba4f3_82 ?_
  refine g_top (v' := nI m) (ngg (nI m)) ?_
  refine g_tbld hX dJ6_getChars_ba4f3_83 hT78 (by decide) (by omega) ?_
  refine g_bast (ws' := [(vb, .inl (D.1 104, 16, .inl (upd f (e - 1) (digOne m))))]) hX dJ6_getChars_ba4f3_84 0 rfl (by decide) (by omega) (narb_o m) rfl ?_
  refine g_iload_n hX dJ6_getChars_ba4f3_85 rfl ?_
  refine g_bipush hX dJ6_getChars_ba4f3_86 kn_b_m9 ?_
  refine g_icmp_ge (tgt := 104) hX dJ6_getChars_ba4f3_88 (by decide) (fun h88 => ?_) (fun h88 => ?_)
  · skip
    refine g_iload hX dJ6_getChars_ba4f3_104 rfl ?_
    refine g_if_eq (tgt := 118) hX dJ6_getChars_ba4f3_106 (by decide) (fun h => absurd h (by decide)) (fun _ => ?_)
    have hl3 : 2 ≤ e := by rw [numS_3 m (ng9y m hm h88) hm0] at hl; exact hl
    refine g_aload_n hX dJ6_getChars_ba4f3_109 rfl ?_
    refine g_iinc (L' := [some (.int (-(nI m))), some (.int (nI e)), some (.ref vb), none, none, some (.int (nI ((e - 1) - 1))), some (.int (nI 1))]) hX dJ6_getChars_ba4f3_110 rfl (pk_dec (a := e - 1) (by omega)) (by decide) rfl ?_
    refine g_iload hX dJ6_getChars_ba4f3_113 rfl ?_
    refine g_bipush hX dJ6_getChars_ba4f3_115 kn_b_45 ?_
    refine g_bast (ws' := [(vb, .inl (D.1 104, 16, .inl (upd (upd f (e - 1) (digOne m)) ((e - 1) - 1) (nI 45))))]) hX dJ6_getChars_ba4f3_117 0 rfl (by decide) (by omega) rfl rfl ?_
    refine g_iload hX dJ6_getChars_ba4f3_118 rfl ?_
    subst hQ
    exact g_iret hX dJ6_getChars_ba4f3_120 (iR (by rw [numS_3 m (ng9y m hm h88) hm0]; rfl)) (by rw [numS_3 m (ng9y m hm h88) hm0, gc_2 (by omega)]) rfl rfl
  · skip
    have hq2 := ng9n m hm h88
    have hl2 : 2 ≤ e := by rw [numS_4 m hm hq2] at hl; have : 3 ≤ e := hl; omega
    refine g_aload_n hX dJ6_getChars_ba4f3_91 rfl ?_
    refine g_iinc (L' := [some (.int (-(nI m))), some (.int (nI e)), some (.ref vb), none, none, some (.int (nI ((e - 1) - 1))), some (.int (nI 1))]) hX dJ6_getChars_ba4f3_92 rfl (pk_dec (a := e - 1) (by omega)) (by decide) rfl ?_
    refine g_iload hX dJ6_getChars_ba4f3_95 rfl ?_
    refine g_statA hX dJ6_getChars_ba4f3_97 fs_J6_87 hX.tens (fun t97 hT97 => ?_)
    refine g_iload_n hX dJ6_getChars_ba4f3_100 rfl ?_
    refine g_ineg hX dJ6_getChars_ba4f3_101 ?_
    refine g_top (v' := nI m) (ngg (nI m)) ?_
    refine g_tbld hX dJ6_getChars_ba4f3_102 hT97 (by decide) (by omega) ?_
    refine g_bast (ws' := [(vb, .inl (D.1 104, 16, .inl (upd (upd f (e - 1) (digOne m)) ((e - 1) - 1) (digTen m))))]) hX dJ6_getChars_ba4f3_103 0 rfl (by decide) (by omega) (narb_t m hm) rfl ?_
    refine g_iload hX dJ6_getChars_ba4f3_104 rfl ?_
    refine g_if_eq (tgt := 118) hX dJ6_getChars_ba4f3_106 (by decide) (fun h => absurd h (by decide)) (fun _ => ?_)
    have hl3 : 3 ≤ e := by rw [numS_4 m hm (ng9n m hm h88)] at hl; exact hl
    refine g_aload_n hX dJ6_getChars_ba4f3_109 rfl ?_
    refine g_iinc (L' := [some (.int (-(nI m))), some (.int (nI e)), some (.ref vb), none, none, some (.int (nI (((e - 1) - 1) - 1))), some (.int (nI 1))]) hX dJ6_getChars_ba4f3_110 rfl (pk_dec (a := (e - 1) - 1) (by omega)) (by decide) rfl ?_
    refine g_iload hX dJ6_getChars_ba4f3_113 rfl ?_
    refine g_bipush hX dJ6_getChars_ba4f3_115 kn_b_45 ?_
    refine g_bast (ws' := [(vb, .inl (D.1 104, 16, .inl (upd (upd (upd f (e - 1) (digOne m)) ((e - 1) - 1) (digTen m)) (((e - 1) - 1) - 1) (nI 45))))]) hX dJ6_getChars_ba4f3_117 0 rfl (by decide) (by omega) rfl rfl ?_
    refine g_iload hX dJ6_getChars_ba4f3_118 rfl ?_
    subst hQ
    exact g_iret hX dJ6_getChars_ba4f3_120 (iR (by rw [numS_4 m hm (ng9n m hm h88)]; rfl)) (by rw [numS_4 m hm (ng9n m hm h88), gc_3 (by omega)]) rfl rfl
set_option maxRecDepth 100000 in
set_option maxHeartbeats 4000000 in
theorem ct_J5_append_c97b9_P {l : Launch} {D : va_G} {sb vb : Nat} {xs : List Int32} {m : Nat} (hm : m < 100) (hn : xs.length + (numS (nI m)).length ≤ 16) : Cf l D yJ5_append_c97b9 cJ5_append_c97b9 4 (some (.object "java/lang/AbstractStringBuilder")) 1 26 [.ref sb, .int (nI m)] [(sb, .inr (0, [.ref vb, .int (nI 0), .int 0, .int (nI xs.length)])), (vb, .inl (D.1 104, 16, .inl (sbB xs)))] (some (.ref sb)) [(sb, .inr (0, [.ref vb, .int (nI 0), .int 0, .int (nI ((xs ++ numS (nI m)).length))])), (vb, .inl (D.1 104, 16, .inl (sbB (xs ++ numS (nI m)))))] := by
  refine Ct.ofG (by decide) (Nat.le_of_ble_eq_true rfl) ?_
  intro X hX
  have hX : CX X l D RJ5 "append" cJ5_append_c97b9 4 (some (.object "java/lang/AbstractStringBuilder")) 1 26 0 0 := hX
  show G X (QF X (some (.ref sb)) [(sb, .inr (0, [.ref vb, .int (nI 0), .int 0, .int (nI ((xs ++ numS (nI m)).length))])), (vb, .inl (D.1 104, 16, .inl (sbB (xs ++ numS (nI m)))))]) [(sb, .inr (0, [.ref vb, .int (nI 0), .int 0, .int (nI xs.length)])), (vb, .inl (D.1 104, 16, .inl (sbB xs)))] 0 0 0 [some (.ref sb), some (.int (nI m)), none, none] []
  generalize hQ : QF X (some (.ref sb)) [(sb, .inr (0, [.ref vb, .int (nI 0), .int 0, .int (nI ((xs ++ numS (nI m)).length))])), (vb, .inl (D.1 104, 16, .inl (sbB (xs ++ numS (nI m)))))] = Q
  refine g_aload_n hX dJ5_append_c97b9_0 rfl ?_
  refine g_getf hX dJ5_append_c97b9_1 fk_J5_79 0 rfl rfl ?_
  refine g_istore_n (L' := [some (.ref sb), some (.int (nI m)), some (.int (nI xs.length)), none]) hX dJ5_append_c97b9_4 (by decide) rfl ?_
  refine g_iload_n hX dJ5_append_c97b9_5 rfl ?_
  refine g_iload_n hX dJ5_append_c97b9_6 rfl ?_
  refine g_callSRi hX dJ5_append_c97b9_7 cw_J5_245 (ct_J6_stringSize_0f7a4_P  (by omega)) [] rfl rfl (by decide) rfl ⟨by decide, by decide⟩ (Nat.le_of_ble_eq_true rfl) (Nat.le_refl _) (Nat.le_refl _) ?_
  refine g_iaddN hX dJ5_append_c97b9_10 ?_
  refine g_istore_n (L' := [some (.ref sb), some (.int (nI m)), some (.int (nI xs.length)), some (.int (nI (xs.length + ((numS (nI m)).length))))]) hX dJ5_append_c97b9_11 (by decide) rfl ?_
  refine g_aload_n hX dJ5_append_c97b9_12 rfl ?_
  refine g_iload_n hX dJ5_append_c97b9_13 rfl ?_
  refine g_callW (n := 1) (C := RJ4) hX dJ5_append_c97b9_14 cv_J5_100 rfl ⟨by decide, by decide, by decide +kernel⟩ (ct_J5_ensureCapacityInternal_d00df  (by omega)) 0 0 [0, 1] rfl rfl rfl rfl (by decide) rfl (fun _ => rfl) ⟨by decide, by decide⟩ (Nat.le_of_ble_eq_true rfl) ⟨Nat.le_refl _, Nat.le_refl _⟩ (fun vgh ugh hp => ?_)
  obtain rfl := hp
  show G X Q [(sb, .inr (0, [.ref vb, .int (nI 0), .int 0, .int (nI xs.length)])), (vb, .inl (D.1 104, 16, .inl (sbB xs)))] 0 0 17 [some (.ref sb), some (.int (nI m)), some (.int (nI xs.length)), some (.int (nI (xs.length + ((numS (nI m)).length))))] []
  refine g_aload_n hX dJ5_append_c97b9_17 rfl ?_
  refine g_callU (n := 0) (C := RJ4) hX dJ5_append_c97b9_18 cu_J5_83 rfl ⟨by decide, by decide, by decide +kernel⟩ ct_J5_isLatin1_aae02 0 0 [0] rfl rfl rfl rfl (by decide) rfl (fun _ => rfl) ⟨by decide, by decide⟩ (Nat.le_of_ble_eq_true rfl) ⟨Nat.le_refl _, Nat.le_refl _⟩ (fun vgh ugh hp => ?_)
  obtain rfl := hp
  show G X Q [(sb, .inr (0, [.ref vb, .int (nI 0), .int 0, .int (nI xs.length)])), (vb, .inl (D.1 104, 16, .inl (sbB xs)))] 0 0 21 [some (.ref sb), some (.int (nI m)), some (.int (nI xs.length)), some (.int (nI (xs.length + ((numS (nI m)).length))))] [.int (bI true)]
  refine g_ifb_eq (tgt := 37) hX dJ5_append_c97b9_21 (by decide) (fun h => absurd h (by decide)) (fun h21 => ?_)
  refine g_iload_n hX dJ5_append_c97b9_24 rfl ?_
  refine g_iload_n hX dJ5_append_c97b9_25 rfl ?_
  refine g_aload_n hX dJ5_append_c97b9_26 rfl ?_
  refine g_getf hX dJ5_append_c97b9_27 fk_J5_15 0 rfl rfl ?_
  refine g_callSFi (ws' := [(sb, .inr (0, [.ref vb, .int (nI 0), .int 0, .int (nI xs.length)])), (vb, .inl (D.1 104, 16, .inl (putL (sbB xs) ((xs.length + ((numS (nI m)).length)) - (numS (nI m)).length) (numS (nI m)))))]) hX dJ5_append_c97b9_30 cw_J5_248 (ct_J6_getChars_ba4f3_P  (by omega) (by omega) (Nat.le_add_left _ _)) [1] rfl rfl (by decide) rfl rfl ⟨by decide, by decide⟩ (Nat.le_of_ble_eq_true rfl) (Nat.le_refl _) (Nat.le_refl _) rfl ?_
  refine g_pop hX dJ5_append_c97b9_33 rfl ?_
  refine g_goto (tgt := 48) hX dJ5_append_c97b9_34 (by decide) ?_
  refine g_aload_n hX dJ5_append_c97b9_48 rfl ?_
  refine g_iload_n hX dJ5_append_c97b9_49 rfl ?_
  refine g_puti (ws' := [(sb, .inr (0, [.ref vb, .int (nI 0), .int 0, .int (nI (xs.length + ((numS (nI m)).length)))])), (vb, .inl (D.1 104, 16, .inl (putL (sbB xs) ((xs.length + ((numS (nI m)).length)) - (numS (nI m)).length) (numS (nI m)))))]) hX dJ5_append_c97b9_50 fp_J5_79 0 rfl (Nat.le_of_ble_eq_true rfl) rfl ?_
  refine g_aload_n hX dJ5_append_c97b9_53 rfl ?_
  subst hQ
  exact g_aretU hX dJ5_append_c97b9_54 (Or.inl ⟨_, rfl⟩) () (rfl) (by rw [sbB_2, List.length_append, Nat.add_sub_cancel]) (Nat.le_refl _) (Nat.le_refl _)
set_option maxRecDepth 100000 in
set_option maxHeartbeats 4000000 in
theorem ct_J5_append_c97b9_M {l : Launch} {D : va_G} {sb vb : Nat} {xs : List Int32} {m : Nat} (hm : m < 100) (hm0 : 0 < m) (hn : xs.length + (numS (-(nI m))).length ≤ 16) : Cf l D yJ5_append_c97b9 cJ5_append_c97b9 4 (some (.object "java/lang/AbstractStringBuilder")) 1 26 [.ref sb, .int (-(nI m))] [(sb, .inr (0, [.ref vb, .int (nI 0), .int 0, .int (nI xs.length)])), (vb, .inl (D.1 104, 16, .inl (sbB xs)))] (some (.ref sb)) [(sb, .inr (0, [.ref vb, .int (nI 0), .int 0, .int (nI ((xs ++ numS (-(nI m))).length))])), (vb, .inl (D.1 104, 16, .inl (sbB (xs ++ numS (-(nI m))))))] := by
  refine Ct.ofG (by decide) (Nat.le_of_ble_eq_true rfl) ?_
  intro X hX
  have hX : CX X l D RJ5 "append" cJ5_append_c97b9 4 (some (.object "java/lang/AbstractStringBuilder")) 1 26 0 0 := hX
  show G X (QF X (some (.ref sb)) [(sb, .inr (0, [.ref vb, .int (nI 0), .int 0, .int (nI ((xs ++ numS (-(nI m))).length))])), (vb, .inl (D.1 104, 16, .inl (sbB (xs ++ numS (-(nI m))))))]) [(sb, .inr (0, [.ref vb, .int (nI 0), .int 0, .int (nI xs.length)])), (vb, .inl (D.1 104, 16, .inl (sbB xs)))] 0 0 0 [some (.ref sb), some (.int (-(nI m))), none, none] []
  generalize hQ : QF X (some (.ref sb)) [(sb, .inr (0, [.ref vb, .int (nI 0), .int 0, .int (nI ((xs ++ numS (-(nI m))).length))])), (vb, .inl (D.1 104, 16, .inl (sbB (xs ++ numS (-(nI m))))))] = Q
  refine g_aload_n hX dJ5_append_c97b9_0 rfl ?_
  refine g_getf hX dJ5_append_c97b9_1 fk_J5_79 0 rfl rfl ?_
  refine g_istore_n (L' := [some (.ref sb), some (.int (-(nI m))), some (.int (nI xs.length)), none]) hX dJ5_append_c97b9_4 (by decide) rfl ?_
  refine g_iload_n hX dJ5_append_c97b9_5 rfl ?_
  refine g_iload_n hX dJ5_append_c97b9_6 rfl ?_
  refine g_callSRi hX dJ5_append_c97b9_7 cw_J5_245 (ct_J6_stringSize_0f7a4_M  (by omega) (by omega)) [] rfl rfl (by decide) rfl ⟨by decide, by decide⟩ (Nat.le_of_ble_eq_true rfl) (Nat.le_refl _) (Nat.le_refl _) ?_
  refine g_iaddN hX dJ5_append_c97b9_10 ?_
  refine g_istore_n (L' := [some (.ref sb), some (.int (-(nI m))), some (.int (nI xs.length)), some (.int (nI (xs.length + ((numS (-(nI m))).length))))]) hX dJ5_append_c97b9_11 (by decide) rfl ?_
  refine g_aload_n hX dJ5_append_c97b9_12 rfl ?_
  refine g_iload_n hX dJ5_append_c97b9_13 rfl ?_
  refine g_callW (n := 1) (C := RJ4) hX dJ5_append_c97b9_14 cv_J5_100 rfl ⟨by decide, by decide, by decide +kernel⟩ (ct_J5_ensureCapacityInternal_d00df  (by omega)) 0 0 [0, 1] rfl rfl rfl rfl (by decide) rfl (fun _ => rfl) ⟨by decide, by decide⟩ (Nat.le_of_ble_eq_true rfl) ⟨Nat.le_refl _, Nat.le_refl _⟩ (fun vgh ugh hp => ?_)
  obtain rfl := hp
  show G X Q [(sb, .inr (0, [.ref vb, .int (nI 0), .int 0, .int (nI xs.length)])), (vb, .inl (D.1 104, 16, .inl (sbB xs)))] 0 0 17 [some (.ref sb), some (.int (-(nI m))), some (.int (nI xs.length)), some (.int (nI (xs.length + ((numS (-(nI m))).length))))] []
  refine g_aload_n hX dJ5_append_c97b9_17 rfl ?_
  refine g_callU (n := 0) (C := RJ4) hX dJ5_append_c97b9_18 cu_J5_83 rfl ⟨by decide, by decide, by decide +kernel⟩ ct_J5_isLatin1_aae02 0 0 [0] rfl rfl rfl rfl (by decide) rfl (fun _ => rfl) ⟨by decide, by decide⟩ (Nat.le_of_ble_eq_true rfl) ⟨Nat.le_refl _, Nat.le_refl _⟩ (fun vgh ugh hp => ?_)
  obtain rfl := hp
  show G X Q [(sb, .inr (0, [.ref vb, .int (nI 0), .int 0, .int (nI xs.length)])), (vb, .inl (D.1 104, 16, .inl (sbB xs)))] 0 0 21 [some (.ref sb), some (.int (-(nI m))), some (.int (nI xs.length)), some (.int (nI (xs.length + ((numS (-(nI m))).length))))] [.int (bI true)]
  refine g_ifb_eq (tgt := 37) hX dJ5_append_c97b9_21 (by decide) (fun h => absurd h (by decide)) (fun h21 => ?_)
  refine g_iload_n hX dJ5_append_c97b9_24 rfl ?_
  refine g_iload_n hX dJ5_append_c97b9_25 rfl ?_
  refine g_aload_n hX dJ5_append_c97b9_26 rfl ?_
  refine g_getf hX dJ5_append_c97b9_27 fk_J5_15 0 rfl rfl ?_
  refine g_callSFi (ws' := [(sb, .inr (0, [.ref vb, .int (nI 0), .int 0, .int (nI xs.length)])), (vb, .inl (D.1 104, 16, .inl (putL (sbB xs) ((xs.length + ((numS (-(nI m))).length)) - (numS (-(nI m))).length) (numS (-(nI m))))))]) hX dJ5_append_c97b9_30 cw_J5_248 (ct_J6_getChars_ba4f3_M  (by omega) (by omega) (by omega) (Nat.le_add_left _ _)) [1] rfl rfl (by decide) rfl rfl ⟨by decide, by decide⟩ (Nat.le_of_ble_eq_true rfl) (Nat.le_refl _) (Nat.le_refl _) rfl ?_
  refine g_pop hX dJ5_append_c97b9_33 rfl ?_
  refine g_goto (tgt := 48) hX dJ5_append_c97b9_34 (by decide) ?_
  refine g_aload_n hX dJ5_append_c97b9_48 rfl ?_
  refine g_iload_n hX dJ5_append_c97b9_49 rfl ?_
  refine g_puti (ws' := [(sb, .inr (0, [.ref vb, .int (nI 0), .int 0, .int (nI (xs.length + ((numS (-(nI m))).length)))])), (vb, .inl (D.1 104, 16, .inl (putL (sbB xs) ((xs.length + ((numS (-(nI m))).length)) - (numS (-(nI m))).length) (numS (-(nI m))))))]) hX dJ5_append_c97b9_50 fp_J5_79 0 rfl (Nat.le_of_ble_eq_true rfl) rfl ?_
  refine g_aload_n hX dJ5_append_c97b9_53 rfl ?_
  subst hQ
  exact g_aretU hX dJ5_append_c97b9_54 (Or.inl ⟨_, rfl⟩) () (rfl) (by rw [sbB_2, List.length_append, Nat.add_sub_cancel]) (Nat.le_refl _) (Nat.le_refl _)
set_option maxRecDepth 100000 in
set_option maxHeartbeats 4000000 in
theorem ct_J4_append_bf812_P {l : Launch} {D : va_G} {sb vb : Nat} {xs : List Int32} {m : Nat} (hm : m < 100) (hn : xs.length + (numS (nI m)).length ≤ 16) : Cf l D yJ4_append_bf812 cJ4_append_bf812 2 (some (.object "java/lang/StringBuilder")) 2 49 [.ref sb, .int (nI m)] [(sb, .inr (0, [.ref vb, .int (nI 0), .int 0, .int (nI xs.length)])), (vb, .inl (D.1 104, 16, .inl (sbB xs)))] (some (.ref sb)) [(sb, .inr (0, [.ref vb, .int (nI 0), .int 0, .int (nI ((xs ++ numS (nI m)).length))])), (vb, .inl (D.1 104, 16, .inl (sbB (xs ++ numS (nI m)))))] := by
  refine Ct.ofG (by decide) (Nat.le_of_ble_eq_true rfl) ?_
  intro X hX
  have hX : CX X l D RJ4 "append" cJ4_append_bf812 2 (some (.object "java/lang/StringBuilder")) 2 49 0 0 := hX
  show G X (QF X (some (.ref sb)) [(sb, .inr (0, [.ref vb, .int (nI 0), .int 0, .int (nI ((xs ++ numS (nI m)).length))])), (vb, .inl (D.1 104, 16, .inl (sbB (xs ++ numS (nI m)))))]) [(sb, .inr (0, [.ref vb, .int (nI 0), .int 0, .int (nI xs.length)])), (vb, .inl (D.1 104, 16, .inl (sbB xs)))] 0 0 0 [some (.ref sb), some (.int (nI m))] []
  generalize hQ : QF X (some (.ref sb)) [(sb, .inr (0, [.ref vb, .int (nI 0), .int 0, .int (nI ((xs ++ numS (nI m)).length))])), (vb, .inl (D.1 104, 16, .inl (sbB (xs ++ numS (nI m)))))] = Q
  refine g_aload_n hX dJ4_append_bf812_0 rfl ?_
  refine g_iload_n hX dJ4_append_bf812_1 rfl ?_
  refine g_callSU (n := 1) hX dJ4_append_bf812_2 cs_J4_53 ⟨by decide, by decide +kernel⟩ (ct_J5_append_c97b9_P  (by omega) (by omega)) 0 0 (C := RJ4) [0, 1] rfl rfl rfl rfl (cat_J4 hX) (by decide) rfl (fun _ => rfl) ⟨by decide, by decide⟩ (Nat.le_of_ble_eq_true rfl) ⟨Nat.le_refl _, Nat.le_refl _⟩ (fun vgh ugh hp => ?_)
  obtain rfl := hp
  show G X Q [(sb, .inr (0, [.ref vb, .int (nI 0), .int 0, .int (nI ((xs ++ numS (nI m)).length))])), (vb, .inl (D.1 104, 16, .inl (sbB (xs ++ numS (nI m)))))] 0 0 5 [some (.ref sb), some (.int (nI m))] [.ref sb]
  refine g_pop hX dJ4_append_bf812_5 rfl ?_
  refine g_aload_n hX dJ4_append_bf812_6 rfl ?_
  subst hQ
  exact g_aretU hX dJ4_append_bf812_7 (Or.inl ⟨_, rfl⟩) () (rfl) (rfl) (Nat.le_refl _) (Nat.le_refl _)
set_option maxRecDepth 100000 in
set_option maxHeartbeats 4000000 in
theorem ct_J4_append_bf812_M {l : Launch} {D : va_G} {sb vb : Nat} {xs : List Int32} {m : Nat} (hm : m < 100) (hm0 : 0 < m) (hn : xs.length + (numS (-(nI m))).length ≤ 16) : Cf l D yJ4_append_bf812 cJ4_append_bf812 2 (some (.object "java/lang/StringBuilder")) 2 49 [.ref sb, .int (-(nI m))] [(sb, .inr (0, [.ref vb, .int (nI 0), .int 0, .int (nI xs.length)])), (vb, .inl (D.1 104, 16, .inl (sbB xs)))] (some (.ref sb)) [(sb, .inr (0, [.ref vb, .int (nI 0), .int 0, .int (nI ((xs ++ numS (-(nI m))).length))])), (vb, .inl (D.1 104, 16, .inl (sbB (xs ++ numS (-(nI m))))))] := by
  refine Ct.ofG (by decide) (Nat.le_of_ble_eq_true rfl) ?_
  intro X hX
  have hX : CX X l D RJ4 "append" cJ4_append_bf812 2 (some (.object "java/lang/StringBuilder")) 2 49 0 0 := hX
  show G X (QF X (some (.ref sb)) [(sb, .inr (0, [.ref vb, .int (nI 0), .int 0, .int (nI ((xs ++ numS (-(nI m))).length))])), (vb, .inl (D.1 104, 16, .inl (sbB (xs ++ numS (-(nI m))))))]) [(sb, .inr (0, [.ref vb, .int (nI 0), .int 0, .int (nI xs.length)])), (vb, .inl (D.1 104, 16, .inl (sbB xs)))] 0 0 0 [some (.ref sb), some (.int (-(nI m)))] []
  generalize hQ : QF X (some (.ref sb)) [(sb, .inr (0, [.ref vb, .int (nI 0), .int 0, .int (nI ((xs ++ numS (-(nI m))).length))])), (vb, .inl (D.1 104, 16, .inl (sbB (xs ++ numS (-(nI m))))))] = Q
  refine g_aload_n hX dJ4_append_bf812_0 rfl ?_
  refine g_iload_n hX dJ4_append_bf812_1 rfl ?_
  refine g_callSU (n := 1) hX dJ4_append_bf812_2 cs_J4_53 ⟨by decide, by decide +kernel⟩ (ct_J5_append_c97b9_M  (by omega) (by omega) (by omega)) 0 0 (C := RJ4) [0, 1] rfl rfl rfl rfl (cat_J4 hX) (by decide) rfl (fun _ => rfl) ⟨by decide, by decide⟩ (Nat.le_of_ble_eq_true rfl) ⟨Nat.le_refl _, Nat.le_refl _⟩ (fun vgh ugh hp => ?_)
  obtain rfl := hp
  show G X Q [(sb, .inr (0, [.ref vb, .int (nI 0), .int 0, .int (nI ((xs ++ numS (-(nI m))).length))])), (vb, .inl (D.1 104, 16, .inl (sbB (xs ++ numS (-(nI m))))))] 0 0 5 [some (.ref sb), some (.int (-(nI m)))] [.ref sb]
  refine g_pop hX dJ4_append_bf812_5 rfl ?_
  refine g_aload_n hX dJ4_append_bf812_6 rfl ?_
  subst hQ
  exact g_aretU hX dJ4_append_bf812_7 (Or.inl ⟨_, rfl⟩) () (rfl) (rfl) (Nat.le_refl _) (Nat.le_refl _)
set_option maxRecDepth 100000 in
set_option maxHeartbeats 4000000 in
theorem ct_J5_length_8abf5 {l : Launch} {D : va_G} {sb vb : Nat} {xs : List Int32}  : Cf l D yJ5_length_8abf5 cJ5_length_8abf5 1 (some .int) 0 0 [.ref sb] [(sb, .inr (0, [.ref vb, .int (nI 0), .int 0, .int (nI xs.length)]))] (some (.int (nI xs.length))) [(sb, .inr (0, [.ref vb, .int (nI 0), .int 0, .int (nI xs.length)]))] := by
  refine Ct.ofG (by decide) (Nat.le_of_ble_eq_true rfl) ?_
  intro X hX
  have hX : CX X l D RJ5 "length" cJ5_length_8abf5 1 (some .int) 0 0 0 0 := hX
  show G X (QF X (some (.int (nI xs.length))) [(sb, .inr (0, [.ref vb, .int (nI 0), .int 0, .int (nI xs.length)]))]) [(sb, .inr (0, [.ref vb, .int (nI 0), .int 0, .int (nI xs.length)]))] 0 0 0 [some (.ref sb)] []
  generalize hQ : QF X (some (.int (nI xs.length))) [(sb, .inr (0, [.ref vb, .int (nI 0), .int 0, .int (nI xs.length)]))] = Q
  refine g_aload_n hX dJ5_length_8abf5_0 rfl ?_
  refine g_getf hX dJ5_length_8abf5_1 fk_J5_79 0 rfl rfl ?_
  subst hQ
  exact g_iret hX dJ5_length_8abf5_4 (rfl) (rfl) rfl rfl
set_option maxRecDepth 100000 in
set_option maxHeartbeats 4000000 in
theorem ct_J4_length_8abf5 {l : Launch} {D : va_G} {sb vb : Nat} {xs : List Int32}  : Cf l D yJ4_length_8abf5 cJ4_length_8abf5 1 (some .int) 1 20 [.ref sb] [(sb, .inr (0, [.ref vb, .int (nI 0), .int 0, .int (nI xs.length)]))] (some (.int (nI xs.length))) [(sb, .inr (0, [.ref vb, .int (nI 0), .int 0, .int (nI xs.length)]))] := by
  refine Ct.ofG (by decide) (Nat.le_of_ble_eq_true rfl) ?_
  intro X hX
  have hX : CX X l D RJ4 "length" cJ4_length_8abf5 1 (some .int) 1 20 0 0 := hX
  show G X (QF X (some (.int (nI xs.length))) [(sb, .inr (0, [.ref vb, .int (nI 0), .int 0, .int (nI xs.length)]))]) [(sb, .inr (0, [.ref vb, .int (nI 0), .int 0, .int (nI xs.length)]))] 0 0 0 [some (.ref sb)] []
  generalize hQ : QF X (some (.int (nI xs.length))) [(sb, .inr (0, [.ref vb, .int (nI 0), .int 0, .int (nI xs.length)]))] = Q
  refine g_aload_n hX dJ4_length_8abf5_0 rfl ?_
  refine g_callSU (n := 0) hX dJ4_length_8abf5_1 cs_J4_343 ⟨by decide, by decide +kernel⟩ ct_J5_length_8abf5 0 0 (C := RJ4) [0] rfl rfl rfl rfl (cat_J4 hX) (by decide) rfl (fun _ => rfl) ⟨by decide, by decide⟩ (Nat.le_of_ble_eq_true rfl) ⟨Nat.le_refl _, Nat.le_refl _⟩ (fun vgh ugh hp => ?_)
  obtain rfl := hp
  show G X Q [(sb, .inr (0, [.ref vb, .int (nI 0), .int 0, .int (nI xs.length)]))] 0 0 4 [some (.ref sb)] [.int (nI xs.length)]
  subst hQ
  exact g_iret hX dJ4_length_8abf5_4 (rfl) (rfl) rfl rfl
set_option maxRecDepth 100000 in
set_option maxHeartbeats 4000000 in
theorem ct_J5_charAt_5068e {l : Launch} {D : va_G} {sb vb : Nat} {xs : List Int32} {k c : Nat} (hk : k < xs.length) (hx : xs.length ≤ 16) (hc : c < 128) (hb : sbB xs k = nI c) : Cf l D yJ5_charAt_5068e cJ5_charAt_5068e 5 (some .char) 2 43 [.ref sb, .int (nI k)] [(sb, .inr (0, [.ref vb, .int (nI 0), .int 0, .int (nI xs.length)])), (vb, .inl (D.1 104, 16, .inl (sbB xs)))] (some (.int (nI c))) [(sb, .inr (0, [.ref vb, .int (nI 0), .int 0, .int (nI xs.length)])), (vb, .inl (D.1 104, 16, .inl (sbB xs)))] := by
  refine Ct.ofG (by decide) (Nat.le_of_ble_eq_true rfl) ?_
  intro X hX
  have hX : CX X l D RJ5 "charAt" cJ5_charAt_5068e 5 (some .char) 2 43 0 0 := hX
  show G X (QF X (some (.int (nI c))) [(sb, .inr (0, [.ref vb, .int (nI 0), .int 0, .int (nI xs.length)])), (vb, .inl (D.1 104, 16, .inl (sbB xs)))]) [(sb, .inr (0, [.ref vb, .int (nI 0), .int 0, .int (nI xs.length)])), (vb, .inl (D.1 104, 16, .inl (sbB xs)))] 0 0 0 [some (.ref sb), some (.int (nI k)), none, none, none] []
  generalize hQ : QF X (some (.int (nI c))) [(sb, .inr (0, [.ref vb, .int (nI 0), .int 0, .int (nI xs.length)])), (vb, .inl (D.1 104, 16, .inl (sbB xs)))] = Q
  refine g_aload_n hX dJ5_charAt_5068e_0 rfl ?_
  refine g_getf hX dJ5_charAt_5068e_1 fk_J5_22 0 rfl rfl ?_
  refine g_istore_n (L' := [some (.ref sb), some (.int (nI k)), some (.int (nI 0)), none, none]) hX dJ5_charAt_5068e_4 (by decide) rfl ?_
  refine g_aload_n hX dJ5_charAt_5068e_5 rfl ?_
  refine g_getf hX dJ5_charAt_5068e_6 fk_J5_15 0 rfl rfl ?_
  refine g_astore_n (L' := [some (.ref sb), some (.int (nI k)), some (.int (nI 0)), some (.ref vb), none]) hX dJ5_charAt_5068e_9 (by decide) rfl ?_
  refine g_aload_n hX dJ5_charAt_5068e_10 rfl ?_
  refine g_getf hX dJ5_charAt_5068e_11 fk_J5_79 0 rfl rfl ?_
  refine g_aload_n hX dJ5_charAt_5068e_14 rfl ?_
  refine g_alenb hX dJ5_charAt_5068e_15 1 rfl ?_
  refine g_iload_n hX dJ5_charAt_5068e_16 rfl ?_
  refine g_ishr hX dJ5_charAt_5068e_17 ?_
  refine g_top (v' := nI 16) (by decide) ?_
  refine g_mmin hX dJ5_charAt_5068e_18 ml_J5_138 tw_ms_min tw_ini_J9 tw_mc_min (by decide) (Nat.le_of_ble_eq_true rfl) (Nat.le_refl _) (Nat.le_refl _) ?_
  refine g_top (v' := nI xs.length) (if_neg (nI_nlt (by omega) (by omega))) ?_
  refine g_istore (L' := [some (.ref sb), some (.int (nI k)), some (.int (nI 0)), some (.ref vb), some (.int (nI xs.length))]) hX dJ5_charAt_5068e_21 (by decide) rfl ?_
  refine g_iload_n hX dJ5_charAt_5068e_23 rfl ?_
  refine g_iload hX dJ5_charAt_5068e_24 rfl ?_
  refine g_callSRv hX dJ5_charAt_5068e_26 cw_J5_144 (ct_J0_checkIndex_df160  (by omega) (by omega)) [] rfl rfl (by decide) rfl ⟨by decide, by decide⟩ (Nat.le_of_ble_eq_true rfl) (Nat.le_refl _) (Nat.le_refl _) ?_
  refine g_iload_n hX dJ5_charAt_5068e_29 rfl ?_
  refine g_if_ne (tgt := 42) hX dJ5_charAt_5068e_30 (by decide) (fun h => absurd (by decide) h) (fun _ => ?_)
  refine g_aload_n hX dJ5_charAt_5068e_33 rfl ?_
  refine g_iload_n hX dJ5_charAt_5068e_34 rfl ?_
  refine g_bald hX dJ5_charAt_5068e_35 1 rfl (by decide) (by omega) ?_
  refine g_top (v' := nI c) (hb) ?_
  refine g_sipush hX dJ5_charAt_5068e_36 kn_s_255 ?_
  refine g_iand hX dJ5_charAt_5068e_39 ?_
  refine g_top (v' := nI c) (and255 c hc) ?_
  refine g_i2c hX dJ5_charAt_5068e_40 (sb_byte c (by omega)).2.1 ?_
  subst hQ
  exact g_zretU hX dJ5_charAt_5068e_41 (nar_c8 (by omega)) () (rfl) (rfl) (Nat.le_refl _) (Nat.le_refl _)
set_option maxRecDepth 100000 in
set_option maxHeartbeats 4000000 in
theorem ct_J4_charAt_5068e {l : Launch} {D : va_G} {sb vb : Nat} {xs : List Int32} {k c : Nat} (hk : k < xs.length) (hx : xs.length ≤ 16) (hc : c < 128) (hb : sbB xs k = nI c) : Cf l D yJ4_charAt_5068e cJ4_charAt_5068e 2 (some .char) 3 67 [.ref sb, .int (nI k)] [(sb, .inr (0, [.ref vb, .int (nI 0), .int 0, .int (nI xs.length)])), (vb, .inl (D.1 104, 16, .inl (sbB xs)))] (some (.int (nI c))) [(sb, .inr (0, [.ref vb, .int (nI 0), .int 0, .int (nI xs.length)])), (vb, .inl (D.1 104, 16, .inl (sbB xs)))] := by
  refine Ct.ofG (by decide) (Nat.le_of_ble_eq_true rfl) ?_
  intro X hX
  have hX : CX X l D RJ4 "charAt" cJ4_charAt_5068e 2 (some .char) 3 67 0 0 := hX
  show G X (QF X (some (.int (nI c))) [(sb, .inr (0, [.ref vb, .int (nI 0), .int 0, .int (nI xs.length)])), (vb, .inl (D.1 104, 16, .inl (sbB xs)))]) [(sb, .inr (0, [.ref vb, .int (nI 0), .int 0, .int (nI xs.length)])), (vb, .inl (D.1 104, 16, .inl (sbB xs)))] 0 0 0 [some (.ref sb), some (.int (nI k))] []
  generalize hQ : QF X (some (.int (nI c))) [(sb, .inr (0, [.ref vb, .int (nI 0), .int 0, .int (nI xs.length)])), (vb, .inl (D.1 104, 16, .inl (sbB xs)))] = Q
  refine g_aload_n hX dJ4_charAt_5068e_0 rfl ?_
  refine g_iload_n hX dJ4_charAt_5068e_1 rfl ?_
  refine g_callSU (n := 1) hX dJ4_charAt_5068e_2 cs_J4_329 ⟨by decide, by decide +kernel⟩ (ct_J5_charAt_5068e (c := c) (by omega) (by omega) (by omega) (by first | with_reducible assumption | assumption)) 0 0 (C := RJ4) [0, 1] rfl rfl rfl rfl (cat_J4 hX) (by decide) rfl (fun _ => rfl) ⟨by decide, by decide⟩ (Nat.le_of_ble_eq_true rfl) ⟨Nat.le_refl _, Nat.le_refl _⟩ (fun vgh ugh hp => ?_)
  obtain rfl := hp
  show G X Q [(sb, .inr (0, [.ref vb, .int (nI 0), .int 0, .int (nI xs.length)])), (vb, .inl (D.1 104, 16, .inl (sbB xs)))] 0 0 5 [some (.ref sb), some (.int (nI k))] [.int (nI c)]
  subst hQ
  exact g_zretU hX dJ4_charAt_5068e_5 (nar_c8 (by omega)) () (rfl) (rfl) (Nat.le_refl _) (Nat.le_refl _)
set_option maxRecDepth 100000 in
set_option maxHeartbeats 4000000 in
theorem ct_J5_init_d00df {l : Launch} {D : va_G} {sb : Nat}  : Ct (S := Nat × Nat) l D yJ5_init_d00df cJ5_init_d00df 2 none 1 40 1 16 [.ref sb, .int (nI 16)] [(sb, .inr (0, [.null, .int 0, .int 0, .int 0]))] (fun (rv : Option Value) (ugh : Nat × Nat) => match ugh with | (vb, dm) => rv = none) (fun (ugh : Nat × Nat) => match ugh with | (vb, dm) => ([(sb, .inr (0, [.ref vb, .int (nI 0), .int 0, .int 0])), (vb, .inl (D.1 104, 16, .inl (fun _ => 0)))] : va_W)) := by
  refine Ct.ofG (by decide) (Nat.le_of_ble_eq_true rfl) ?_
  intro X hX
  have hX : CX X l D RJ5 "<init>" cJ5_init_d00df 2 none 1 40 1 16 := hX
  show G X (QM X 1 16 (fun (rv : Option Value) (ugh : Nat × Nat) => match ugh with | (vb, dm) => rv = none) (fun (ugh : Nat × Nat) => match ugh with | (vb, dm) => ([(sb, .inr (0, [.ref vb, .int (nI 0), .int 0, .int 0])), (vb, .inl (D.1 104, 16, .inl (fun _ => 0)))] : va_W))) [(sb, .inr (0, [.null, .int 0, .int 0, .int 0]))] 0 0 0 [some (.ref sb), some (.int (nI 16))] []
  generalize hQ : QM X 1 16 (fun (rv : Option Value) (ugh : Nat × Nat) => match ugh with | (vb, dm) => rv = none) (fun (ugh : Nat × Nat) => match ugh with | (vb, dm) => ([(sb, .inr (0, [.ref vb, .int (nI 0), .int 0, .int 0])), (vb, .inl (D.1 104, 16, .inl (fun _ => 0)))] : va_W)) = Q
  refine g_aload_n hX dJ5_init_d00df_0 rfl ?_
  refine g_objInit hX dJ5_init_d00df_1 ml_J5_3 tw_oi tw_oc (by decide) (Nat.le_of_ble_eq_true rfl) ?_
  refine g_stat hX dJ5_init_d00df_4 fs_J5_18 hX.compact ?_
  refine g_if_eq (tgt := 25) hX dJ5_init_d00df_7 (by decide) (fun h => absurd h (by decide)) (fun _ => ?_)
  refine g_aload_n hX dJ5_init_d00df_10 rfl ?_
  refine g_iload_n hX dJ5_init_d00df_11 rfl ?_
  refine g_newb hX dJ5_init_d00df_12 tw_arr_byte (by decide) (by decide) (by decide) (fun n1 => ?_)
  show G X Q [(sb, .inr (0, [.null, .int 0, .int 0, .int 0])), (n1, .inl (D.1 104, 16, .inl (fun _ => 0)))] 1 16 14 [some (.ref sb), some (.int (nI 16))] [.ref n1, .ref sb]
  refine g_putf (ws' := [(sb, .inr (0, [.ref n1, .int 0, .int 0, .int 0])), (n1, .inl (D.1 104, 16, .inl (fun _ => 0)))]) hX dJ5_init_d00df_14 fp_J5_15 0 rfl (Nat.le_of_ble_eq_true rfl) rfl rfl rfl ?_
  refine g_aload_n hX dJ5_init_d00df_17 rfl ?_
  refine g_iconst hX dJ5_init_d00df_18 kn_i_0 ?_
  refine g_putf (ws' := [(sb, .inr (0, [.ref n1, .int (nI 0), .int 0, .int 0])), (n1, .inl (D.1 104, 16, .inl (fun _ => 0)))]) hX dJ5_init_d00df_19 fp_J5_22 0 rfl (Nat.le_of_ble_eq_true rfl) rfl rfl rfl ?_
  refine g_goto (tgt := 38) hX dJ5_init_d00df_22 (by decide) ?_
  subst hQ
  exact g_vretU hX dJ5_init_d00df_38 (n1, 0) (rfl) rfl (Nat.le_of_ble_eq_true rfl) (Nat.le_of_ble_eq_true rfl)
set_option maxRecDepth 100000 in
set_option maxHeartbeats 4000000 in
theorem ct_J4_init_da8c8 {l : Launch} {D : va_G} {sb : Nat}  : Ct (S := Nat × Nat) l D yJ4_init_da8c8 cJ4_init_da8c8 1 none 2 61 1 16 [.ref sb] [(sb, .inr (0, [.null, .int 0, .int 0, .int 0]))] (fun (rv : Option Value) (ugh : Nat × Nat) => match ugh with | (vb, dm) => rv = none) (fun (ugh : Nat × Nat) => match ugh with | (vb, dm) => ([(sb, .inr (0, [.ref vb, .int (nI 0), .int 0, .int 0])), (vb, .inl (D.1 104, 16, .inl (fun _ => 0)))] : va_W)) := by
  refine Ct.ofG (by decide) (Nat.le_of_ble_eq_true rfl) ?_
  intro X hX
  have hX : CX X l D RJ4 "<init>" cJ4_init_da8c8 1 none 2 61 1 16 := hX
  show G X (QM X 1 16 (fun (rv : Option Value) (ugh : Nat × Nat) => match ugh with | (vb, dm) => rv = none) (fun (ugh : Nat × Nat) => match ugh with | (vb, dm) => ([(sb, .inr (0, [.ref vb, .int (nI 0), .int 0, .int 0])), (vb, .inl (D.1 104, 16, .inl (fun _ => 0)))] : va_W))) [(sb, .inr (0, [.null, .int 0, .int 0, .int 0]))] 0 0 0 [some (.ref sb)] []
  generalize hQ : QM X 1 16 (fun (rv : Option Value) (ugh : Nat × Nat) => match ugh with | (vb, dm) => rv = none) (fun (ugh : Nat × Nat) => match ugh with | (vb, dm) => ([(sb, .inr (0, [.ref vb, .int (nI 0), .int 0, .int 0])), (vb, .inl (D.1 104, 16, .inl (fun _ => 0)))] : va_W)) = Q
  refine g_aload_n hX dJ4_init_da8c8_0 rfl ?_
  refine g_bipush hX dJ4_init_da8c8_1 kn_b_16 ?_
  refine g_callJ (fun ugh => match ugh with | (g_vb, g_dm) => ([(sb, .inr (0, [.ref g_vb, .int (nI 0), .int 0, .int 0]))] : va_W)) (fun ugh => match ugh with | (g_vb, g_dm) => ([(g_vb, .inl (D.1 104, 16, .inl (fun _ => 0)))] : va_W)) (fun ⟨_, _⟩ => rfl) hX dJ4_init_da8c8_3 ci_J4_1 tw_ini_J5 rfl ⟨by decide, by decide, rfl⟩ ct_J5_init_d00df [0] rfl rfl (by decide) rfl (fun ⟨_, _⟩ => rfl) ⟨by decide, by decide⟩ (Nat.le_of_ble_eq_true rfl) ⟨by decide, by decide⟩ (fun vgh ugh hp => ?_)
  obtain ⟨vb_3_0, dm_3_0⟩ := ugh
  obtain rfl := hp
  show G X Q [(sb, .inr (0, [.ref vb_3_0, .int (nI 0), .int 0, .int 0])), (vb_3_0, .inl (D.1 104, 16, .inl (fun _ => 0)))] 1 16 6 [some (.ref sb)] []
  subst hQ
  exact g_vretU hX dJ4_init_da8c8_6 (vb_3_0, 0) (rfl) rfl (Nat.le_of_ble_eq_true rfl) (Nat.le_of_ble_eq_true rfl)
theorem ct_J4_append_bf812_I {l : Launch} {D : va_G} {sb vb : Nat} {xs : List Int32} {g : Int32} (hg9 : -100 < g.toInt ∧ g.toInt < 100) (hn : xs.length + (numS g).length ≤ 16) : Cf l D yJ4_append_bf812 cJ4_append_bf812 2 (some (.object "java/lang/StringBuilder")) 2 49 [.ref sb, .int g] [(sb, .inr (0, [.ref vb, .int (nI 0), .int 0, .int (nI xs.length)])), (vb, .inl (D.1 104, 16, .inl (sbB xs)))] (some (.ref sb)) [(sb, .inr (0, [.ref vb, .int (nI 0), .int 0, .int (nI ((xs ++ numS g).length))])), (vb, .inl (D.1 104, 16, .inl (sbB (xs ++ numS g))))] := by
  obtain ⟨m, hm, e⟩ := num99 hg9
  rcases e with e | ⟨h0, e⟩
  · subst e
    exact ct_J4_append_bf812_P hm hn
  · subst e
    exact ct_J4_append_bf812_M hm h0 hn
