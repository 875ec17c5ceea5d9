set_option maxRecDepth 100000 in
set_option maxHeartbeats 4000000 in
theorem ct_J3_checkIndex_8e157 {l : Launch} {D : va_G} {a b z : Nat} (hab : a < b) (hb : b < 2147483648) : Cf l D yJ3_checkIndex_8e157 cJ3_checkIndex_8e157 3 (some .int) 0 0 [.int (nI a), .int (nI b), .ref z] [] (some (.int (nI a))) [] := by
  refine Ct.ofG (by decide) (Nat.le_of_ble_eq_true rfl) ?_
  intro X hX
  have hX : CX X l D RJ3 "checkIndex" cJ3_checkIndex_8e157 3 (some .int) 0 0 0 0 := hX
  show G X (QF X (some (.int (nI a))) []) [] 0 0 0 [some (.int (nI a)), some (.int (nI b)), some (.ref z)] []
  generalize hQ : QF X (some (.int (nI a))) [] = Q
  refine g_iload_n hX dJ3_checkIndex_8e157_0 rfl ?_
  refine g_ifN_lt (tgt := 9) hX dJ3_checkIndex_8e157_1 (by decide) (by omega) ?_
  refine g_iload_n hX dJ3_checkIndex_8e157_4 rfl ?_
  refine g_iload_n hX dJ3_checkIndex_8e157_5 rfl ?_
  refine g_icmpN_lt (tgt := 16) hX dJ3_checkIndex_8e157_6 (by decide) (by omega) (by omega) (fun h6 => ?_) (fun h => absurd hab h)
  refine g_iload_n hX dJ3_checkIndex_8e157_16 rfl ?_
  subst hQ
  exact g_iret hX dJ3_checkIndex_8e157_17 (rfl) (rfl) rfl rfl
set_option maxRecDepth 100000 in
set_option maxHeartbeats 4000000 in
theorem ct_J3_checkIndex_8e157_0 {l : Launch} {D : va_G} {a b : Nat} (hab : a < b) (hb : b < 2147483648) : Cf l D yJ3_checkIndex_8e157 cJ3_checkIndex_8e157 3 (some .int) 0 0 [.int (nI a), .int (nI b), .null] [] (some (.int (nI a))) [] := by
  refine Ct.ofG (by decide) (Nat.le_of_ble_eq_true rfl) ?_
  intro X hX
  have hX : CX X l D RJ3 "checkIndex" cJ3_checkIndex_8e157 3 (some .int) 0 0 0 0 := hX
  show G X (QF X (some (.int (nI a))) []) [] 0 0 0 [some (.int (nI a)), some (.int (nI b)), some (.null)] []
  generalize hQ : QF X (some (.int (nI a))) [] = Q
  refine g_iload_n hX dJ3_checkIndex_8e157_0 rfl ?_
  refine g_ifN_lt (tgt := 9) hX dJ3_checkIndex_8e157_1 (by decide) (by omega) ?_
  refine g_iload_n hX dJ3_checkIndex_8e157_4 rfl ?_
  refine g_iload_n hX dJ3_checkIndex_8e157_5 rfl ?_
  refine g_icmpN_lt (tgt := 16) hX dJ3_checkIndex_8e157_6 (by decide) (by omega) (by omega) (fun h6 => ?_) (fun h => absurd hab h)
  refine g_iload_n hX dJ3_checkIndex_8e157_16 rfl ?_
  subst hQ
  exact g_iret hX dJ3_checkIndex_8e157_17 (rfl) (rfl) rfl rfl
set_option maxRecDepth 100000 in
set_option maxHeartbeats 4000000 in
theorem ct_J0_checkIndex_df160 {l : Launch} {D : va_G} {a b : Nat} (hab : a < b) (hb : b < 2147483648) : Cf l D yJ0_checkIndex_df160 cJ0_checkIndex_df160 2 none 1 22 [.int (nI a), .int (nI b)] [] none [] := by
  refine Ct.ofG (by decide) (Nat.le_of_ble_eq_true rfl) ?_
  intro X hX
  have hX : CX X l D RJ0 "checkIndex" cJ0_checkIndex_df160 2 none 1 22 0 0 := hX
  show G X (QF X none []) [] 0 0 0 [some (.int (nI a)), some (.int (nI b))] []
  generalize hQ : QF X none [] = Q
  refine g_iload_n hX dJ0_checkIndex_df160_0 rfl ?_
  refine g_iload_n hX dJ0_checkIndex_df160_1 rfl ?_
  refine g_statQ hX dJ0_checkIndex_df160_2 fs_J0_1053 ?_ (fun z2 => ?_)
  · skip
    refine g_callSRi hX dJ0_checkIndex_df160_5 cw_J0_1059 (ct_J3_checkIndex_8e157_0  (by omega) (by omega)) [] rfl rfl (by decide) rfl ⟨by decide, by decide⟩ (Nat.le_of_ble_eq_true rfl) (Nat.le_refl _) (Nat.le_refl _) ?_
    refine g_pop hX dJ0_checkIndex_df160_8 rfl ?_
    subst hQ
    exact g_vret hX dJ0_checkIndex_df160_9 rfl (rfl) rfl rfl
  · skip
    refine g_callSRi hX dJ0_checkIndex_df160_5 cw_J0_1059 (ct_J3_checkIndex_8e157  (by omega) (by omega)) [] rfl rfl (by decide) rfl ⟨by decide, by decide⟩ (Nat.le_of_ble_eq_true rfl) (Nat.le_refl _) (Nat.le_refl _) ?_
    refine g_pop hX dJ0_checkIndex_df160_8 rfl ?_
    subst hQ
    exact g_vret hX dJ0_checkIndex_df160_9 rfl (rfl) rfl rfl
set_option maxRecDepth 100000 in
set_option maxHeartbeats 4000000 in
theorem ct_J1_charAt_3b067 {l : Launch} {D : va_G} {i : Nat} {k : Nat} (hi : i < 8) (hk : k < strLen.getD i 0) : Cf l D yJ1_charAt_3b067 cJ1_charAt_3b067 2 (some .char) 2 43 [.ref (D.2 101 i), .int (nI k)] [] (some (.int (nI (strC i k)))) [] := by
  refine Ct.ofG (by decide) (Nat.le_of_ble_eq_true rfl) ?_
  intro X hX
  have hX : CX X l D RJ1 "charAt" cJ1_charAt_3b067 2 (some .char) 2 43 0 0 := hX
  show G X (QF X (some (.int (nI (strC i k)))) []) [] 0 0 0 [some (.ref (D.2 101 i)), some (.int (nI k))] []
  generalize hQ : QF X (some (.int (nI (strC i k)))) [] = Q
  have hl6 := (str_all i hi).1
  obtain ⟨hc1, hc2, -⟩ := (str_all i hi).2.2 k hk
  refine g_iload_n hX dJ1_charAt_3b067_0 rfl ?_
  refine g_aload_n hX dJ1_charAt_3b067_1 rfl ?_
  refine g_alenT hX dJ1_charAt_3b067_2 (hX.strV (i := i) (by first | assumption | decide)) ?_
  refine g_callSRv hX dJ1_charAt_3b067_3 cw_J1_9 (ct_J0_checkIndex_df160  (by omega) (by omega)) [] rfl rfl (by decide) rfl ⟨by decide, by decide⟩ (Nat.le_of_ble_eq_true rfl) (Nat.le_refl _) (Nat.le_refl _) ?_
  refine g_aload_n hX dJ1_charAt_3b067_6 rfl ?_
  refine g_iload_n hX dJ1_charAt_3b067_7 rfl ?_
  refine g_tbld hX dJ1_charAt_3b067_8 (hX.strV (i := i) (by first | assumption | decide)) (by omega) (by omega) ?_
  refine g_sipush hX dJ1_charAt_3b067_9 kn_s_255 ?_
  refine g_iand hX dJ1_charAt_3b067_12 ?_
  refine g_top (v' := nI (strC i k)) (hc2) ?_
  refine g_i2c hX dJ1_charAt_3b067_13 (sb_byte (strC i k) hc1).2.1 ?_
  subst hQ
  exact g_zretU hX dJ1_charAt_3b067_14 (nar_c8 hc1) () (rfl) (rfl) (Nat.le_refl _) (Nat.le_refl _)
set_option maxRecDepth 100000 in
set_option maxHeartbeats 4000000 in
theorem ct_J0_coder_7d493 {l : Launch} {D : va_G} {i : Nat} (hi : i < 8) : Cf l D yJ0_coder_7d493 cJ0_coder_7d493 1 (some .byte) 0 0 [.ref (D.2 100 i)] [] (some (.int (nI 0))) [] := by
  refine Ct.ofG (by decide) (Nat.le_of_ble_eq_true rfl) ?_
  intro X hX
  have hX : CX X l D RJ0 "coder" cJ0_coder_7d493 1 (some .byte) 0 0 0 0 := hX
  show G X (QF X (some (.int (nI 0))) []) [] 0 0 0 [some (.ref (D.2 100 i))] []
  generalize hQ : QF X (some (.int (nI 0))) [] = Q
  refine g_stat hX dJ0_coder_7d493_0 fs_J0_38 hX.compact ?_
  refine g_if_eq (tgt := 13) hX dJ0_coder_7d493_3 (by decide) (fun h => absurd h (by decide)) (fun _ => ?_)
  refine g_aload_n hX dJ0_coder_7d493_6 rfl ?_
  refine g_getKc (i := i) hX (by first | assumption | decide) dJ0_coder_7d493_7 (fs_J0_15.resolve_right (by decide)) ?_
  refine g_goto (tgt := 14) hX dJ0_coder_7d493_10 (by decide) ?_
  subst hQ
  exact g_zretU hX dJ0_coder_7d493_14 rfl () (rfl) (rfl) (Nat.le_refl _) (Nat.le_refl _)
set_option maxRecDepth 100000 in
set_option maxHeartbeats 4000000 in
theorem ct_J0_isLatin1_aae02 {l : Launch} {D : va_G} {i : Nat} (hi : i < 8) : Cf l D yJ0_isLatin1_aae02 cJ0_isLatin1_aae02 1 (some .boolean) 0 0 [.ref (D.2 100 i)] [] (some (.int (bI true))) [] := by
  refine Ct.ofG (by decide) (Nat.le_of_ble_eq_true rfl) ?_
  intro X hX
  have hX : CX X l D RJ0 "isLatin1" cJ0_isLatin1_aae02 1 (some .boolean) 0 0 0 0 := hX
  show G X (QF X (some (.int (bI true))) []) [] 0 0 0 [some (.ref (D.2 100 i))] []
  generalize hQ : QF X (some (.int (bI true))) [] = Q
  refine g_stat hX dJ0_isLatin1_aae02_0 fs_J0_38 hX.compact ?_
  refine g_if_eq (tgt := 17) hX dJ0_isLatin1_aae02_3 (by decide) (fun h => absurd h (by decide)) (fun _ => ?_)
  refine g_aload_n hX dJ0_isLatin1_aae02_6 rfl ?_
  refine g_getKc (i := i) hX (by first | assumption | decide) dJ0_isLatin1_aae02_7 (fs_J0_15.resolve_right (by decide)) ?_
  refine g_if_ne (tgt := 17) hX dJ0_isLatin1_aae02_10 (by decide) (fun h => absurd (by decide) h) (fun _ => ?_)
  refine g_iconst hX dJ0_isLatin1_aae02_13 kn_i_1 ?_
  refine g_goto (tgt := 18) hX dJ0_isLatin1_aae02_14 (by decide) ?_
  subst hQ
  exact g_zret true hX dJ0_isLatin1_aae02_18 (by decide) (rfl) (rfl) rfl rfl
set_option maxRecDepth 100000 in
set_option maxHeartbeats 4000000 in
theorem ct_J0_length_8abf5 {l : Launch} {D : va_G} {i : Nat} (hi : i < 8) : Cf l D yJ0_length_8abf5 cJ0_length_8abf5 1 (some .int) 1 20 [.ref (D.2 100 i)] [] (some (.int (nI (strLen.getD i 0)))) [] := by
  refine Ct.ofG (by decide) (Nat.le_of_ble_eq_true rfl) ?_
  intro X hX
  have hX : CX X l D RJ0 "length" cJ0_length_8abf5 1 (some .int) 1 20 0 0 := hX
  show G X (QF X (some (.int (nI (strLen.getD i 0)))) []) [] 0 0 0 [some (.ref (D.2 100 i))] []
  generalize hQ : QF X (some (.int (nI (strLen.getD i 0)))) [] = Q
  refine g_aload_n hX dJ0_length_8abf5_0 rfl ?_
  refine g_getKv (i := i) hX (by first | assumption | decide) dJ0_length_8abf5_1 (fs_J0_9.resolve_right (by decide)) ?_
  refine g_alenT hX dJ0_length_8abf5_4 (hX.strV (i := i) (by first | assumption | decide)) ?_
  refine g_aload_n hX dJ0_length_8abf5_5 rfl ?_
  refine g_callK (i := i) hX (by first | assumption | decide) rfl dJ0_length_8abf5_6 cw_J0_335 (ct_J0_coder_7d493  (by omega)) rfl rfl ⟨by decide, by decide⟩ (Nat.le_of_ble_eq_true rfl) (Nat.le_refl _) (Nat.le_refl _) ?_
  refine g_ishr hX dJ0_length_8abf5_9 ?_
  refine g_top (v' := nI (strLen.getD i 0)) (sb_shr0 _) ?_
  subst hQ
  exact g_iret hX dJ0_length_8abf5_10 (rfl) (rfl) rfl rfl
set_option maxRecDepth 100000 in
set_option maxHeartbeats 4000000 in
theorem ct_J0_charAt_5068e {l : Launch} {D : va_G} {i : Nat} {k : Nat} (hi : i < 8) (hk : k < strLen.getD i 0) : Cf l D yJ0_charAt_5068e cJ0_charAt_5068e 2 (some .char) 3 64 [.ref (D.2 100 i), .int (nI k)] [] (some (.int (nI (strC i k)))) [] := by
  refine Ct.ofG (by decide) (Nat.le_of_ble_eq_true rfl) ?_
  intro X hX
  have hX : CX X l D RJ0 "charAt" cJ0_charAt_5068e 2 (some .char) 3 64 0 0 := hX
  show G X (QF X (some (.int (nI (strC i k)))) []) [] 0 0 0 [some (.ref (D.2 100 i)), some (.int (nI k))] []
  generalize hQ : QF X (some (.int (nI (strC i k)))) [] = Q
  obtain ⟨hc1, hc2, -⟩ := (str_all i hi).2.2 k hk
  refine g_aload_n hX dJ0_charAt_5068e_0 rfl ?_
  refine g_callK (i := i) hX (by first | assumption | decide) rfl dJ0_charAt_5068e_1 cw_J0_492 (ct_J0_isLatin1_aae02  (by omega)) rfl rfl ⟨by decide, by decide⟩ (Nat.le_of_ble_eq_true rfl) (Nat.le_refl _) (Nat.le_refl _) ?_
  refine g_ifb_eq (tgt := 16) hX dJ0_charAt_5068e_4 (by decide) (fun h => absurd h (by decide)) (fun h4 => ?_)
  refine g_aload_n hX dJ0_charAt_5068e_7 rfl ?_
  refine g_getKv (i := i) hX (by first | assumption | decide) dJ0_charAt_5068e_8 (fs_J0_9.resolve_right (by decide)) ?_
  refine g_iload_n hX dJ0_charAt_5068e_11 rfl ?_
  refine g_callSRi hX dJ0_charAt_5068e_12 cw_J0_495 (ct_J1_charAt_3b067  (by omega) (by omega)) [] rfl rfl (by decide) rfl ⟨by decide, by decide⟩ (Nat.le_of_ble_eq_true rfl) (Nat.le_refl _) (Nat.le_refl _) ?_
  subst hQ
  exact g_zretU hX dJ0_charAt_5068e_15 (nar_c8 hc1) () (rfl) (rfl) (Nat.le_refl _) (Nat.le_refl _)
set_option maxRecDepth 100000 in
set_option maxHeartbeats 4000000 in
theorem ct_X3_isWord {l : Launch} {D : va_G} {d0 d1 e0 sz pa fl : Nat} {cl fa : Int32} {t : Nat → Nat} {a n i : Nat} (hsz : sz ≤ 150) (ht : ∀ k, t k < 256) (han : a + n ≤ sz) (hi : i < 8) : Cf l D yX3_isWord cX3_isWord 5 (some .boolean) 4 85 [.ref d0, .int (nI a), .int (nI n), .ref (D.2 100 i)] [(d0, .inr (4, [.ref d1, .int (nI sz), .int (nI pa), .int cl, .int (nI fl), .int fa, .ref e0])), (d1, .inl (D.1 101, 150, .inl (fun k => nI (t k))))] (some (.int (bI (decide (wordL t a (a + n) = strW i))))) [(d0, .inr (4, [.ref d1, .int (nI sz), .int (nI pa), .int cl, .int (nI fl), .int fa, .ref e0])), (d1, .inl (D.1 101, 150, .inl (fun k => nI (t k))))] := by
  refine Ct.ofG (by decide) (Nat.le_of_ble_eq_true rfl) ?_
  intro X hX
  have hX : CX X l D RX3 "isWord" cX3_isWord 5 (some .boolean) 4 85 0 0 := hX
  show G X (QF X (some (.int (bI (decide (wordL t a (a + n) = strW i))))) [(d0, .inr (4, [.ref d1, .int (nI sz), .int (nI pa), .int cl, .int (nI fl), .int fa, .ref e0])), (d1, .inl (D.1 101, 150, .inl (fun k => nI (t k))))]) [(d0, .inr (4, [.ref d1, .int (nI sz), .int (nI pa), .int cl, .int (nI fl), .int fa, .ref e0])), (d1, .inl (D.1 101, 150, .inl (fun k => nI (t k))))] 0 0 0 [some (.ref d0), some (.int (nI a)), some (.int (nI n)), some (.ref (D.2 100 i)), none] []
  generalize hQ : QF X (some (.int (bI (decide (wordL t a (a + n) = strW i))))) [(d0, .inr (4, [.ref d1, .int (nI sz), .int (nI pa), .int cl, .int (nI fl), .int fa, .ref e0])), (d1, .inl (D.1 101, 150, .inl (fun k => nI (t k))))] = Q
  have hl6 := (str_all i hi).1
  refine g_iload_n hX dX3_isWord_0 rfl ?_
  refine g_aload_n hX dX3_isWord_1 rfl ?_
  refine g_callK (i := i) hX (by first | assumption | decide) rfl dX3_isWord_2 cw_X3_135 (ct_J0_length_8abf5  (by omega)) rfl rfl ⟨by decide, by decide⟩ (Nat.le_of_ble_eq_true rfl) (Nat.le_refl _) (Nat.le_refl _) ?_
  refine g_icmpN_eq (tgt := 10) hX dX3_isWord_5 (by decide) (by omega) (by omega) (fun h5 => ?_) (fun h5 => ?_)
  · skip
    refine g_iconst hX dX3_isWord_10 kn_i_0 ?_
    refine g_istore (L' := [some (.ref d0), some (.int (nI a)), some (.int (nI n)), some (.ref (D.2 100 i)), some (.int (nI 0))]) hX dX3_isWord_11 (by decide) rfl ?_
    have loop13 : ∀ k : Nat, k ≤ n → (∀ j, j < k → t (a + j) = strC i j) → G X Q [(d0, .inr (4, [.ref d1, .int (nI sz), .int (nI pa), .int cl, .int (nI fl), .int fa, .ref e0])), (d1, .inl (D.1 101, 150, .inl (fun k => nI (t k))))] 0 0 13 [some (.ref d0), some (.int (nI a)), some (.int (nI n)), some (.ref (D.2 100 i)), some (.int (nI k))] [] := by
      refine loopN n (fun k hh13 ih13 => ?_)
      intro hq
      refine g_iload hX dX3_isWord_13 rfl ?_
      refine g_iload_n hX dX3_isWord_15 rfl ?_
      refine g_icmpN_ge (tgt := 45) hX dX3_isWord_16 (by decide) (by omega) (by omega) (fun h16 => ?_) (fun h16 => ?_)
      · skip
        obtain rfl : n = k := by omega
        refine g_iconst hX dX3_isWord_45 kn_i_1 ?_
        subst hQ
        exact g_zret true hX dX3_isWord_46 (by decide) (bR (decide_eq_true (word_is hi h5 hq))) (rfl) rfl rfl
      · skip
        refine g_aload_n hX dX3_isWord_19 rfl ?_
        refine g_getf hX dX3_isWord_20 fk_X3_9 0 rfl rfl ?_
        refine g_iload_n hX dX3_isWord_23 rfl ?_
        refine g_iload hX dX3_isWord_24 rfl ?_
        refine g_iaddN hX dX3_isWord_26 ?_
        refine g_cald hX dX3_isWord_27 1 rfl (by decide) (by omega) ?_
        refine g_top (v' := nI (t (a + k))) rfl ?_
        have hct27 := ht (a + k)
        refine g_aload_n hX dX3_isWord_28 rfl ?_
        refine g_iload hX dX3_isWord_29 rfl ?_
        refine g_callK (i := i) hX (by first | assumption | decide) rfl dX3_isWord_31 cw_X3_139 (ct_J0_charAt_5068e  (by omega) (by omega)) rfl rfl ⟨by decide, by decide⟩ (Nat.le_of_ble_eq_true rfl) (Nat.le_refl _) (Nat.le_refl _) ?_
        have hck := ((str_all i hi).2.2 k (by omega)).1
        refine g_icmpN_eq (tgt := 39) hX dX3_isWord_34 (by decide) (by omega) (by omega) (fun h34 => ?_) (fun h34 => ?_)
        · skip
          refine g_iincN (L' := [some (.ref d0), some (.int (nI a)), some (.int (nI n)), some (.ref (D.2 100 i)), some (.int (nI (k + 1)))]) hX dX3_isWord_39 rfl (by decide) rfl ?_
          refine g_goto (tgt := 13) hX dX3_isWord_42 (by decide) ?_
          exact g_fin (ih13 (by omega) (fun j hj => by by_cases e : j = k; rw [e]; exact h34; exact hq j (by omega))) (rfl) rfl ⟨rfl, rfl, rfl, rfl, rfl, trivial⟩
        · skip
          refine g_iconst hX dX3_isWord_37 kn_i_0 ?_
          subst hQ
          exact g_zret false hX dX3_isWord_38 (by decide) (bR (decide_eq_false (word_ne hi h5 (by omega) h34))) (rfl) rfl rfl
    exact g_fin (loop13 0 (by omega) (fun j hj => absurd hj (by omega))) (rfl) rfl ⟨rfl, rfl, rfl, rfl, rfl, trivial⟩
  · skip
    refine g_iconst hX dX3_isWord_8 kn_i_0 ?_
    subst hQ
    exact g_zret false hX dX3_isWord_9 (by decide) (bR (decide_eq_false (word_len hi h5))) (rfl) rfl rfl
