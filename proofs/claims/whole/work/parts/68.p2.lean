set_option maxRecDepth 100000 in
set_option maxHeartbeats 4000000 in
theorem ct_X7_put {l : Launch} {D : va_G} {a0 a1 a2 a3 a4 a5 a6 a7 a8 a9 a10 uk sz wr pa fl ln : Nat} {kp sd fa : Int32} {lo : Nat → Int32} {x : Int32} (hln : ln < 12) : Cf l D yX7_put cX7_put 2 none 0 0 [.ref a0, .int x] [(a0, .inr (8, [.ref a1, .int (nI uk), .int kp, .int sd, .ref a2, .ref a3, .int (nI sz), .int fa, .ref a4, .ref a5, .ref a6, .int (nI wr), .ref a7, .ref a8, .int (nI pa), .int (nI fl), .ref a9, .int (nI ln), .ref a10])), (a9, .inl (D.1 100, 12, .inl lo))] none [(a0, .inr (8, [.ref a1, .int (nI uk), .int kp, .int sd, .ref a2, .ref a3, .int (nI sz), .int fa, .ref a4, .ref a5, .ref a6, .int (nI wr), .ref a7, .ref a8, .int (nI pa), .int (nI fl), .ref a9, .int (nI (ln + 1)), .ref a10])), (a9, .inl (D.1 100, 12, .inl (upd lo ln x)))] := by
  refine Ct.ofG (by decide) (Nat.le_of_ble_eq_true rfl) ?_
  intro X hX
  have hX : CX X l D RX7 "put" cX7_put 2 none 0 0 0 0 := hX
  show G X (QF X none [(a0, .inr (8, [.ref a1, .int (nI uk), .int kp, .int sd, .ref a2, .ref a3, .int (nI sz), .int fa, .ref a4, .ref a5, .ref a6, .int (nI wr), .ref a7, .ref a8, .int (nI pa), .int (nI fl), .ref a9, .int (nI (ln + 1)), .ref a10])), (a9, .inl (D.1 100, 12, .inl (upd lo ln x)))]) [(a0, .inr (8, [.ref a1, .int (nI uk), .int kp, .int sd, .ref a2, .ref a3, .int (nI sz), .int fa, .ref a4, .ref a5, .ref a6, .int (nI wr), .ref a7, .ref a8, .int (nI pa), .int (nI fl), .ref a9, .int (nI ln), .ref a10])), (a9, .inl (D.1 100, 12, .inl lo))] 0 0 0 [some (.ref a0), some (.int x)] []
  generalize hQ : QF X none [(a0, .inr (8, [.ref a1, .int (nI uk), .int kp, .int sd, .ref a2, .ref a3, .int (nI sz), .int fa, .ref a4, .ref a5, .ref a6, .int (nI wr), .ref a7, .ref a8, .int (nI pa), .int (nI fl), .ref a9, .int (nI (ln + 1)), .ref a10])), (a9, .inl (D.1 100, 12, .inl (upd lo ln x)))] = Q
  refine g_aload_n hX dX7_put_0 rfl ?_
  refine g_getf hX dX7_put_1 fk_X7_38 0 rfl rfl ?_
  refine g_aload_n hX dX7_put_4 rfl ?_
  refine g_getf hX dX7_put_5 fk_X7_218 0 rfl rfl ?_
  refine g_iload_n hX dX7_put_8 rfl ?_
  refine g_iast (ws' := [(a0, .inr (8, [.ref a1, .int (nI uk), .int kp, .int sd, .ref a2, .ref a3, .int (nI sz), .int fa, .ref a4, .ref a5, .ref a6, .int (nI wr), .ref a7, .ref a8, .int (nI pa), .int (nI fl), .ref a9, .int (nI ln), .ref a10])), (a9, .inl (D.1 100, 12, .inl (upd lo ln x)))]) hX dX7_put_9 1 rfl (by decide) (by omega) rfl ?_
  refine g_aload_n hX dX7_put_10 rfl ?_
  refine g_dup hX dX7_put_11 rfl ?_
  refine g_getf hX dX7_put_12 fk_X7_218 0 rfl rfl ?_
  refine g_iconst hX dX7_put_15 kn_i_1 ?_
  refine g_iaddN hX dX7_put_16 ?_
  refine g_puti (ws' := [(a0, .inr (8, [.ref a1, .int (nI uk), .int kp, .int sd, .ref a2, .ref a3, .int (nI sz), .int fa, .ref a4, .ref a5, .ref a6, .int (nI wr), .ref a7, .ref a8, .int (nI pa), .int (nI fl), .ref a9, .int (nI (ln + 1)), .ref a10])), (a9, .inl (D.1 100, 12, .inl (upd lo ln x)))]) hX dX7_put_17 fp_X7_218 0 rfl (Nat.le_of_ble_eq_true rfl) rfl ?_
  subst hQ
  exact g_vret hX dX7_put_20 rfl (rfl) rfl rfl
set_option maxRecDepth 100000 in
set_option maxHeartbeats 4000000 in
theorem ct_X7_putNumber {l : Launch} {D : va_G} {a0 a1 a2 a3 a4 a5 a6 a7 a8 a9 a10 uk sz wr pa fl ln : Nat} {kp sd fa : Int32} {lo : Nat → Int32} {v : Int32} (hln : ln + 3 ≤ 12) : Cf l D yX7_putNumber cX7_putNumber 3 none 1 21 [.ref a0, .int v] [(a0, .inr (8, [.ref a1, .int (nI uk), .int kp, .int sd, .ref a2, .ref a3, .int (nI sz), .int fa, .ref a4, .ref a5, .ref a6, .int (nI wr), .ref a7, .ref a8, .int (nI pa), .int (nI fl), .ref a9, .int (nI ln), .ref a10])), (a9, .inl (D.1 100, 12, .inl lo))] none [(a0, .inr (8, [.ref a1, .int (nI uk), .int kp, .int sd, .ref a2, .ref a3, .int (nI sz), .int fa, .ref a4, .ref a5, .ref a6, .int (nI wr), .ref a7, .ref a8, .int (nI pa), .int (nI fl), .ref a9, .int (nI (ln + (numL v).length)), .ref a10])), (a9, .inl (D.1 100, 12, .inl (putL lo ln (numL v))))] := by
  refine Ct.ofG (by decide) (Nat.le_of_ble_eq_true rfl) ?_
  intro X hX
  have hX : CX X l D RX7 "putNumber" cX7_putNumber 3 none 1 21 0 0 := hX
  show G X (QF X none [(a0, .inr (8, [.ref a1, .int (nI uk), .int kp, .int sd, .ref a2, .ref a3, .int (nI sz), .int fa, .ref a4, .ref a5, .ref a6, .int (nI wr), .ref a7, .ref a8, .int (nI pa), .int (nI fl), .ref a9, .int (nI (ln + (numL v).length)), .ref a10])), (a9, .inl (D.1 100, 12, .inl (putL lo ln (numL v))))]) [(a0, .inr (8, [.ref a1, .int (nI uk), .int kp, .int sd, .ref a2, .ref a3, .int (nI sz), .int fa, .ref a4, .ref a5, .ref a6, .int (nI wr), .ref a7, .ref a8, .int (nI pa), .int (nI fl), .ref a9, .int (nI ln), .ref a10])), (a9, .inl (D.1 100, 12, .inl lo))] 0 0 0 [some (.ref a0), some (.int v), none] []
  generalize hQ : QF X none [(a0, .inr (8, [.ref a1, .int (nI uk), .int kp, .int sd, .ref a2, .ref a3, .int (nI sz), .int fa, .ref a4, .ref a5, .ref a6, .int (nI wr), .ref a7, .ref a8, .int (nI pa), .int (nI fl), .ref a9, .int (nI (ln + (numL v).length)), .ref a10])), (a9, .inl (D.1 100, 12, .inl (putL lo ln (numL v))))] = Q
  refine g_iload_n hX dX7_putNumber_0 rfl ?_
  refine g_bipush hX dX7_putNumber_1 kn_b_100 ?_
  refine g_isub hX dX7_putNumber_3 ?_
  refine g_istore_n (L' := [some (.ref a0), some (.int v), some (.int (v - (nI 100)))]) hX dX7_putNumber_4 (by decide) rfl ?_
  refine g_iload_n hX dX7_putNumber_5 rfl ?_
  refine g_if_ge (tgt := 18) hX dX7_putNumber_6 (by decide) (fun h6 => ?_) (fun h6 => ?_)
  · skip
    refine g_iload_n hX dX7_putNumber_18 rfl ?_
    refine g_bipush hX dX7_putNumber_19 kn_b_9 ?_
    refine g_icmp_le (tgt := 35) hX dX7_putNumber_21 (by decide) (fun h21 => ?_) (fun h21 => ?_)
    · skip
      refine g_aload_n hX dX7_putNumber_35 rfl ?_
      refine g_bipush hX dX7_putNumber_36 kn_b_48 ?_
      refine g_iload_n hX dX7_putNumber_38 rfl ?_
      refine g_bipush hX dX7_putNumber_39 kn_b_10 ?_
      refine g_irem hX dX7_putNumber_41 (by decide) ?_
      refine g_iadd hX dX7_putNumber_42 ?_
      refine g_callFv (ws' := [(a0, .inr (8, [.ref a1, .int (nI uk), .int kp, .int sd, .ref a2, .ref a3, .int (nI sz), .int fa, .ref a4, .ref a5, .ref a6, .int (nI wr), .ref a7, .ref a8, .int (nI pa), .int (nI fl), .ref a9, .int (nI (ln + 1)), .ref a10])), (a9, .inl (D.1 100, 12, .inl (upd lo ln ((nI 48) + ((v - (nI 100)) - (v - (nI 100)) / (nI 10) * (nI 10))))))]) hX dX7_putNumber_43 cw_X7_221 (ct_X7_put  (by omega)) 0 8 [0, 1] rfl rfl rfl rfl (by decide) rfl rfl ⟨by decide, by decide⟩ (Nat.le_of_ble_eq_true rfl) (Nat.le_refl _) (Nat.le_refl _) rfl ?_
      subst hQ
      exact g_vret hX dX7_putNumber_46 rfl (by rw [show numL v = _ from if_pos h6, show numP _ = _ from if_pos h21]; rfl) rfl rfl
    · skip
      refine g_aload_n hX dX7_putNumber_24 rfl ?_
      refine g_bipush hX dX7_putNumber_25 kn_b_48 ?_
      refine g_iload_n hX dX7_putNumber_27 rfl ?_
      refine g_bipush hX dX7_putNumber_28 kn_b_10 ?_
      refine g_idiv hX dX7_putNumber_30 (by decide) ?_
      refine g_iadd hX dX7_putNumber_31 ?_
      refine g_callFv (ws' := [(a0, .inr (8, [.ref a1, .int (nI uk), .int kp, .int sd, .ref a2, .ref a3, .int (nI sz), .int fa, .ref a4, .ref a5, .ref a6, .int (nI wr), .ref a7, .ref a8, .int (nI pa), .int (nI fl), .ref a9, .int (nI (ln + 1)), .ref a10])), (a9, .inl (D.1 100, 12, .inl (upd lo ln ((nI 48) + ((v - (nI 100)) / (nI 10))))))]) hX dX7_putNumber_32 cw_X7_221 (ct_X7_put  (by omega)) 0 8 [0, 1] rfl rfl rfl rfl (by decide) rfl rfl ⟨by decide, by decide⟩ (Nat.le_of_ble_eq_true rfl) (Nat.le_refl _) (Nat.le_refl _) rfl ?_
      refine g_aload_n hX dX7_putNumber_35 rfl ?_
      refine g_bipush hX dX7_putNumber_36 kn_b_48 ?_
      refine g_iload_n hX dX7_putNumber_38 rfl ?_
      refine g_bipush hX dX7_putNumber_39 kn_b_10 ?_
      refine g_irem hX dX7_putNumber_41 (by decide) ?_
      refine g_iadd hX dX7_putNumber_42 ?_
      refine g_callFv (ws' := [(a0, .inr (8, [.ref a1, .int (nI uk), .int kp, .int sd, .ref a2, .ref a3, .int (nI sz), .int fa, .ref a4, .ref a5, .ref a6, .int (nI wr), .ref a7, .ref a8, .int (nI pa), .int (nI fl), .ref a9, .int (nI ((ln + 1) + 1)), .ref a10])), (a9, .inl (D.1 100, 12, .inl (upd (upd lo ln ((nI 48) + ((v - (nI 100)) / (nI 10)))) (ln + 1) ((nI 48) + ((v - (nI 100)) - (v - (nI 100)) / (nI 10) * (nI 10))))))]) hX dX7_putNumber_43 cw_X7_221 (ct_X7_put  (by omega)) 0 8 [0, 1] rfl rfl rfl rfl (by decide) rfl rfl ⟨by decide, by decide⟩ (Nat.le_of_ble_eq_true rfl) (Nat.le_refl _) (Nat.le_refl _) rfl ?_
      subst hQ
      exact g_vret hX dX7_putNumber_46 rfl (by rw [show numL v = _ from if_pos h6, show numP _ = _ from if_neg h21]; rfl) rfl rfl
  · skip
    refine g_aload_n hX dX7_putNumber_9 rfl ?_
    refine g_bipush hX dX7_putNumber_10 kn_b_45 ?_
    refine g_callFv (ws' := [(a0, .inr (8, [.ref a1, .int (nI uk), .int kp, .int sd, .ref a2, .ref a3, .int (nI sz), .int fa, .ref a4, .ref a5, .ref a6, .int (nI wr), .ref a7, .ref a8, .int (nI pa), .int (nI fl), .ref a9, .int (nI (ln + 1)), .ref a10])), (a9, .inl (D.1 100, 12, .inl (upd lo ln (nI 45))))]) hX dX7_putNumber_12 cw_X7_221 (ct_X7_put  (by omega)) 0 8 [0, 1] rfl rfl rfl rfl (by decide) rfl rfl ⟨by decide, by decide⟩ (Nat.le_of_ble_eq_true rfl) (Nat.le_refl _) (Nat.le_refl _) rfl ?_
    refine g_iload_n hX dX7_putNumber_15 rfl ?_
    refine g_ineg hX dX7_putNumber_16 ?_
    refine g_istore_n (L' := [some (.ref a0), some (.int v), some (.int (-(v - (nI 100))))]) hX dX7_putNumber_17 (by decide) rfl ?_
    refine g_iload_n hX dX7_putNumber_18 rfl ?_
    refine g_bipush hX dX7_putNumber_19 kn_b_9 ?_
    refine g_icmp_le (tgt := 35) hX dX7_putNumber_21 (by decide) (fun h21 => ?_) (fun h21 => ?_)
    · skip
      refine g_aload_n hX dX7_putNumber_35 rfl ?_
      refine g_bipush hX dX7_putNumber_36 kn_b_48 ?_
      refine g_iload_n hX dX7_putNumber_38 rfl ?_
      refine g_bipush hX dX7_putNumber_39 kn_b_10 ?_
      refine g_irem hX dX7_putNumber_41 (by decide) ?_
      refine g_iadd hX dX7_putNumber_42 ?_
      refine g_callFv (ws' := [(a0, .inr (8, [.ref a1, .int (nI uk), .int kp, .int sd, .ref a2, .ref a3, .int (nI sz), .int fa, .ref a4, .ref a5, .ref a6, .int (nI wr), .ref a7, .ref a8, .int (nI pa), .int (nI fl), .ref a9, .int (nI ((ln + 1) + 1)), .ref a10])), (a9, .inl (D.1 100, 12, .inl (upd (upd lo ln (nI 45)) (ln + 1) ((nI 48) + ((-(v - (nI 100))) - (-(v - (nI 100))) / (nI 10) * (nI 10))))))]) hX dX7_putNumber_43 cw_X7_221 (ct_X7_put  (by omega)) 0 8 [0, 1] rfl rfl rfl rfl (by decide) rfl rfl ⟨by decide, by decide⟩ (Nat.le_of_ble_eq_true rfl) (Nat.le_refl _) (Nat.le_refl _) rfl ?_
      subst hQ
      exact g_vret hX dX7_putNumber_46 rfl (by rw [show numL v = _ from if_neg h6, show numP _ = _ from if_pos h21]; rfl) rfl rfl
    · skip
      refine g_aload_n hX dX7_putNumber_24 rfl ?_
      refine g_bipush hX dX7_putNumber_25 kn_b_48 ?_
      refine g_iload_n hX dX7_putNumber_27 rfl ?_
      refine g_bipush hX dX7_putNumber_28 kn_b_10 ?_
      refine g_idiv hX dX7_putNumber_30 (by decide) ?_
      refine g_iadd hX dX7_putNumber_31 ?_
      refine g_callFv (ws' := [(a0, .inr (8, [.ref a1, .int (nI uk), .int kp, .int sd, .ref a2, .ref a3, .int (nI sz), .int fa, .ref a4, .ref a5, .ref a6, .int (nI wr), .ref a7, .ref a8, .int (nI pa), .int (nI fl), .ref a9, .int (nI ((ln + 1) + 1)), .ref a10])), (a9, .inl (D.1 100, 12, .inl (upd (upd lo ln (nI 45)) (ln + 1) ((nI 48) + ((-(v - (nI 100))) / (nI 10))))))]) hX dX7_putNumber_32 cw_X7_221 (ct_X7_put  (by omega)) 0 8 [0, 1] rfl rfl rfl rfl (by decide) rfl rfl ⟨by decide, by decide⟩ (Nat.le_of_ble_eq_true rfl) (Nat.le_refl _) (Nat.le_refl _) rfl ?_
      refine g_aload_n hX dX7_putNumber_35 rfl ?_
      refine g_bipush hX dX7_putNumber_36 kn_b_48 ?_
      refine g_iload_n hX dX7_putNumber_38 rfl ?_
      refine g_bipush hX dX7_putNumber_39 kn_b_10 ?_
      refine g_irem hX dX7_putNumber_41 (by decide) ?_
      refine g_iadd hX dX7_putNumber_42 ?_
      refine g_callFv (ws' := [(a0, .inr (8, [.ref a1, .int (nI uk), .int kp, .int sd, .ref a2, .ref a3, .int (nI sz), .int fa, .ref a4, .ref a5, .ref a6, .int (nI wr), .ref a7, .ref a8, .int (nI pa), .int (nI fl), .ref a9, .int (nI (((ln + 1) + 1) + 1)), .ref a10])), (a9, .inl (D.1 100, 12, .inl (upd (upd (upd lo ln (nI 45)) (ln + 1) ((nI 48) + ((-(v - (nI 100))) / (nI 10)))) ((ln + 1) + 1) ((nI 48) + ((-(v - (nI 100))) - (-(v - (nI 100))) / (nI 10) * (nI 10))))))]) hX dX7_putNumber_43 cw_X7_221 (ct_X7_put  (by omega)) 0 8 [0, 1] rfl rfl rfl rfl (by decide) rfl rfl ⟨by decide, by decide⟩ (Nat.le_of_ble_eq_true rfl) (Nat.le_refl _) (Nat.le_refl _) rfl ?_
      subst hQ
      exact g_vret hX dX7_putNumber_46 rfl (by rw [show numL v = _ from if_neg h6, show numP _ = _ from if_neg h21]; rfl) rfl rfl
set_option maxRecDepth 100000 in
set_option maxHeartbeats 4000000 in
theorem ct_X7_layCell {l : Launch} {D : va_G} {a0 a1 a2 a3 a4 a5 a6 a7 a8 a9 a10 uk sz wr pa fl ln : Nat} {kp sd fa : Int32} {w q lo : Nat → Int32} {i j : Nat} (hb : ¬ nI 2 * belowOf w q (nI i) (nI j) = 0) : Cf l D yX7_layCell cX7_layCell 3 none 8 193 [.ref a0, .int (nI i), .int (nI j)] [(a0, .inr (8, [.ref a1, .int (nI uk), .int kp, .int sd, .ref a2, .ref a3, .int (nI sz), .int fa, .ref a4, .ref a5, .ref a6, .int (nI wr), .ref a7, .ref a8, .int (nI pa), .int (nI fl), .ref a9, .int (nI ln), .ref a10])), (a9, .inl (D.1 100, 12, .inl lo)), (a1, .inl (D.1 100, 3318, .inl w)), (a7, .inl (D.1 100, 16, .inl q))] none [(a0, .inr (8, [.ref a1, .int (nI uk), .int kp, .int sd, .ref a2, .ref a3, .int (nI sz), .int fa, .ref a4, .ref a5, .ref a6, .int (nI wr), .ref a7, .ref a8, .int (nI pa), .int (nI fl), .ref a9, .int (nI ((cellL w q i j).length)), .ref a10])), (a9, .inl (D.1 100, 12, .inl (putL lo 0 (cellL w q i j)))), (a1, .inl (D.1 100, 3318, .inl w)), (a7, .inl (D.1 100, 16, .inl q))] := by
  refine Ct.ofG (by decide) (Nat.le_of_ble_eq_true rfl) ?_
  intro X hX
  have hX : CX X l D RX7 "layCell" cX7_layCell 3 none 8 193 0 0 := hX
  show G X (QF X none [(a0, .inr (8, [.ref a1, .int (nI uk), .int kp, .int sd, .ref a2, .ref a3, .int (nI sz), .int fa, .ref a4, .ref a5, .ref a6, .int (nI wr), .ref a7, .ref a8, .int (nI pa), .int (nI fl), .ref a9, .int (nI ((cellL w q i j).length)), .ref a10])), (a9, .inl (D.1 100, 12, .inl (putL lo 0 (cellL w q i j)))), (a1, .inl (D.1 100, 3318, .inl w)), (a7, .inl (D.1 100, 16, .inl q))]) [(a0, .inr (8, [.ref a1, .int (nI uk), .int kp, .int sd, .ref a2, .ref a3, .int (nI sz), .int fa, .ref a4, .ref a5, .ref a6, .int (nI wr), .ref a7, .ref a8, .int (nI pa), .int (nI fl), .ref a9, .int (nI ln), .ref a10])), (a9, .inl (D.1 100, 12, .inl lo)), (a1, .inl (D.1 100, 3318, .inl w)), (a7, .inl (D.1 100, 16, .inl q))] 0 0 0 [some (.ref a0), some (.int (nI i)), some (.int (nI j))] []
  generalize hQ : QF X none [(a0, .inr (8, [.ref a1, .int (nI uk), .int kp, .int sd, .ref a2, .ref a3, .int (nI sz), .int fa, .ref a4, .ref a5, .ref a6, .int (nI wr), .ref a7, .ref a8, .int (nI pa), .int (nI fl), .ref a9, .int (nI ((cellL w q i j).length)), .ref a10])), (a9, .inl (D.1 100, 12, .inl (putL lo 0 (cellL w q i j)))), (a1, .inl (D.1 100, 3318, .inl w)), (a7, .inl (D.1 100, 16, .inl q))] = Q
  refine g_aload_n hX dX7_layCell_0 rfl ?_
  refine g_iconst hX dX7_layCell_1 kn_i_0 ?_
  refine g_puti (ws' := [(a0, .inr (8, [.ref a1, .int (nI uk), .int kp, .int sd, .ref a2, .ref a3, .int (nI sz), .int fa, .ref a4, .ref a5, .ref a6, .int (nI wr), .ref a7, .ref a8, .int (nI pa), .int (nI fl), .ref a9, .int (nI 0), .ref a10])), (a9, .inl (D.1 100, 12, .inl lo)), (a1, .inl (D.1 100, 3318, .inl w)), (a7, .inl (D.1 100, 16, .inl q))]) hX dX7_layCell_2 fp_X7_218 0 rfl (Nat.le_of_ble_eq_true rfl) rfl ?_
  refine g_aload_n hX dX7_layCell_5 rfl ?_
  refine g_bipush hX dX7_layCell_6 kn_b_48 ?_
  refine g_iload_n hX dX7_layCell_8 rfl ?_
  refine g_iaddN hX dX7_layCell_9 ?_
  refine g_callFv (ws' := [(a0, .inr (8, [.ref a1, .int (nI uk), .int kp, .int sd, .ref a2, .ref a3, .int (nI sz), .int fa, .ref a4, .ref a5, .ref a6, .int (nI wr), .ref a7, .ref a8, .int (nI pa), .int (nI fl), .ref a9, .int (nI (0 + 1)), .ref a10])), (a9, .inl (D.1 100, 12, .inl (upd lo 0 (nI (48 + i))))), (a1, .inl (D.1 100, 3318, .inl w)), (a7, .inl (D.1 100, 16, .inl q))]) hX dX7_layCell_10 cw_X7_221 (ct_X7_put  (by omega)) 0 8 [0, 1] rfl rfl rfl rfl (by decide) rfl rfl ⟨by decide, by decide⟩ (Nat.le_of_ble_eq_true rfl) (Nat.le_refl _) (Nat.le_refl _) rfl ?_
  refine g_aload_n hX dX7_layCell_13 rfl ?_
  refine g_bipush hX dX7_layCell_14 kn_b_47 ?_
  refine g_callFv (ws' := [(a0, .inr (8, [.ref a1, .int (nI uk), .int kp, .int sd, .ref a2, .ref a3, .int (nI sz), .int fa, .ref a4, .ref a5, .ref a6, .int (nI wr), .ref a7, .ref a8, .int (nI pa), .int (nI fl), .ref a9, .int (nI ((0 + 1) + 1)), .ref a10])), (a9, .inl (D.1 100, 12, .inl (upd (upd lo 0 (nI (48 + i))) (0 + 1) (nI 47)))), (a1, .inl (D.1 100, 3318, .inl w)), (a7, .inl (D.1 100, 16, .inl q))]) hX dX7_layCell_16 cw_X7_221 (ct_X7_put  (by omega)) 0 8 [0, 1] rfl rfl rfl rfl (by decide) rfl rfl ⟨by decide, by decide⟩ (Nat.le_of_ble_eq_true rfl) (Nat.le_refl _) (Nat.le_refl _) rfl ?_
  refine g_aload_n hX dX7_layCell_19 rfl ?_
  refine g_bipush hX dX7_layCell_20 kn_b_48 ?_
  refine g_iload_n hX dX7_layCell_22 rfl ?_
  refine g_iaddN hX dX7_layCell_23 ?_
  refine g_callFv (ws' := [(a0, .inr (8, [.ref a1, .int (nI uk), .int kp, .int sd, .ref a2, .ref a3, .int (nI sz), .int fa, .ref a4, .ref a5, .ref a6, .int (nI wr), .ref a7, .ref a8, .int (nI pa), .int (nI fl), .ref a9, .int (nI (((0 + 1) + 1) + 1)), .ref a10])), (a9, .inl (D.1 100, 12, .inl (upd (upd (upd lo 0 (nI (48 + i))) (0 + 1) (nI 47)) ((0 + 1) + 1) (nI (48 + j))))), (a1, .inl (D.1 100, 3318, .inl w)), (a7, .inl (D.1 100, 16, .inl q))]) hX dX7_layCell_24 cw_X7_221 (ct_X7_put  (by omega)) 0 8 [0, 1] rfl rfl rfl rfl (by decide) rfl rfl ⟨by decide, by decide⟩ (Nat.le_of_ble_eq_true rfl) (Nat.le_refl _) (Nat.le_refl _) rfl ?_
  refine g_aload_n hX dX7_layCell_27 rfl ?_
  refine g_bipush hX dX7_layCell_28 kn_b_32 ?_
  refine g_callFv (ws' := [(a0, .inr (8, [.ref a1, .int (nI uk), .int kp, .int sd, .ref a2, .ref a3, .int (nI sz), .int fa, .ref a4, .ref a5, .ref a6, .int (nI wr), .ref a7, .ref a8, .int (nI pa), .int (nI fl), .ref a9, .int (nI ((((0 + 1) + 1) + 1) + 1)), .ref a10])), (a9, .inl (D.1 100, 12, .inl (upd (upd (upd (upd lo 0 (nI (48 + i))) (0 + 1) (nI 47)) ((0 + 1) + 1) (nI (48 + j))) (((0 + 1) + 1) + 1) (nI 32)))), (a1, .inl (D.1 100, 3318, .inl w)), (a7, .inl (D.1 100, 16, .inl q))]) hX dX7_layCell_30 cw_X7_221 (ct_X7_put  (by omega)) 0 8 [0, 1] rfl rfl rfl rfl (by decide) rfl rfl ⟨by decide, by decide⟩ (Nat.le_of_ble_eq_true rfl) (Nat.le_refl _) (Nat.le_refl _) rfl ?_
  refine g_aload_n hX dX7_layCell_33 rfl ?_
  refine g_aload_n hX dX7_layCell_34 rfl ?_
  refine g_iload_n hX dX7_layCell_35 rfl ?_
  refine g_iload_n hX dX7_layCell_36 rfl ?_
  refine g_callRi hX dX7_layCell_37 cw_X7_126 (ct_X7_cellGap  (by first | with_reducible assumption | rfl) (by first | with_reducible assumption | rfl) (by first | with_reducible assumption | assumption)) 0 8 [0, 2, 3] rfl rfl rfl rfl (by decide) rfl ⟨by decide, by decide⟩ (Nat.le_of_ble_eq_true rfl) (Nat.le_refl _) (Nat.le_refl _) ?_
  refine g_callFv (ws' := [(a0, .inr (8, [.ref a1, .int (nI uk), .int kp, .int sd, .ref a2, .ref a3, .int (nI sz), .int fa, .ref a4, .ref a5, .ref a6, .int (nI wr), .ref a7, .ref a8, .int (nI pa), .int (nI fl), .ref a9, .int (nI (((((0 + 1) + 1) + 1) + 1) + (numL (cellGap w q (nI i) (nI j))).length)), .ref a10])), (a9, .inl (D.1 100, 12, .inl (putL (upd (upd (upd (upd lo 0 (nI (48 + i))) (0 + 1) (nI 47)) ((0 + 1) + 1) (nI (48 + j))) (((0 + 1) + 1) + 1) (nI 32)) ((((0 + 1) + 1) + 1) + 1) (numL (cellGap w q (nI i) (nI j)))))), (a1, .inl (D.1 100, 3318, .inl w)), (a7, .inl (D.1 100, 16, .inl q))]) hX dX7_layCell_40 cw_X7_224 (ct_X7_putNumber  (by omega)) 0 8 [0, 1] rfl rfl rfl rfl (by decide) rfl rfl ⟨by decide, by decide⟩ (Nat.le_of_ble_eq_true rfl) (Nat.le_refl _) (Nat.le_refl _) rfl ?_
  subst hQ
  exact g_vret hX dX7_layCell_43 rfl (by rw [show (cellL w q i j).length = 0 + 1 + 1 + 1 + 1 + (numL (cellGap w q (nI i) (nI j))).length by simp [cellL]; omega]; rfl) rfl rfl
set_option maxRecDepth 100000 in
set_option maxHeartbeats 4000000 in
theorem ct_X7_layPair {l : Launch} {D : va_G} {a0 a1 a2 a3 a4 a5 a6 a7 a8 a9 a10 uk sz wr pa fl ln : Nat} {kp sd fa : Int32} {w lo : Nat → Int32} {c d : Nat} (hc : c < 8) (hd : d < 8) : Cf l D yX7_layPair cX7_layPair 3 none 2 43 [.ref a0, .int (nI c), .int (nI d)] [(a0, .inr (8, [.ref a1, .int (nI uk), .int kp, .int sd, .ref a2, .ref a3, .int (nI sz), .int fa, .ref a4, .ref a5, .ref a6, .int (nI wr), .ref a7, .ref a8, .int (nI pa), .int (nI fl), .ref a9, .int (nI ln), .ref a10])), (a9, .inl (D.1 100, 12, .inl lo)), (a1, .inl (D.1 100, 3318, .inl w))] none [(a0, .inr (8, [.ref a1, .int (nI uk), .int kp, .int sd, .ref a2, .ref a3, .int (nI sz), .int fa, .ref a4, .ref a5, .ref a6, .int (nI wr), .ref a7, .ref a8, .int (nI pa), .int (nI fl), .ref a9, .int (nI ((pairL w c d).length)), .ref a10])), (a9, .inl (D.1 100, 12, .inl (putL lo 0 (pairL w c d)))), (a1, .inl (D.1 100, 3318, .inl w))] := by
  refine Ct.ofG (by decide) (Nat.le_of_ble_eq_true rfl) ?_
  intro X hX
  have hX : CX X l D RX7 "layPair" cX7_layPair 3 none 2 43 0 0 := hX
  show G X (QF X none [(a0, .inr (8, [.ref a1, .int (nI uk), .int kp, .int sd, .ref a2, .ref a3, .int (nI sz), .int fa, .ref a4, .ref a5, .ref a6, .int (nI wr), .ref a7, .ref a8, .int (nI pa), .int (nI fl), .ref a9, .int (nI ((pairL w c d).length)), .ref a10])), (a9, .inl (D.1 100, 12, .inl (putL lo 0 (pairL w c d)))), (a1, .inl (D.1 100, 3318, .inl w))]) [(a0, .inr (8, [.ref a1, .int (nI uk), .int kp, .int sd, .ref a2, .ref a3, .int (nI sz), .int fa, .ref a4, .ref a5, .ref a6, .int (nI wr), .ref a7, .ref a8, .int (nI pa), .int (nI fl), .ref a9, .int (nI ln), .ref a10])), (a9, .inl (D.1 100, 12, .inl lo)), (a1, .inl (D.1 100, 3318, .inl w))] 0 0 0 [some (.ref a0), some (.int (nI c)), some (.int (nI d))] []
  generalize hQ : QF X none [(a0, .inr (8, [.ref a1, .int (nI uk), .int kp, .int sd, .ref a2, .ref a3, .int (nI sz), .int fa, .ref a4, .ref a5, .ref a6, .int (nI wr), .ref a7, .ref a8, .int (nI pa), .int (nI fl), .ref a9, .int (nI ((pairL w c d).length)), .ref a10])), (a9, .inl (D.1 100, 12, .inl (putL lo 0 (pairL w c d)))), (a1, .inl (D.1 100, 3318, .inl w))] = Q
  refine g_aload_n hX dX7_layPair_0 rfl ?_
  refine g_iconst hX dX7_layPair_1 kn_i_0 ?_
  refine g_puti (ws' := [(a0, .inr (8, [.ref a1, .int (nI uk), .int kp, .int sd, .ref a2, .ref a3, .int (nI sz), .int fa, .ref a4, .ref a5, .ref a6, .int (nI wr), .ref a7, .ref a8, .int (nI pa), .int (nI fl), .ref a9, .int (nI 0), .ref a10])), (a9, .inl (D.1 100, 12, .inl lo)), (a1, .inl (D.1 100, 3318, .inl w))]) hX dX7_layPair_2 fp_X7_218 0 rfl (Nat.le_of_ble_eq_true rfl) rfl ?_
  refine g_aload_n hX dX7_layPair_5 rfl ?_
  refine g_bipush hX dX7_layPair_6 kn_b_97 ?_
  refine g_iload_n hX dX7_layPair_8 rfl ?_
  refine g_iaddN hX dX7_layPair_9 ?_
  refine g_callFv (ws' := [(a0, .inr (8, [.ref a1, .int (nI uk), .int kp, .int sd, .ref a2, .ref a3, .int (nI sz), .int fa, .ref a4, .ref a5, .ref a6, .int (nI wr), .ref a7, .ref a8, .int (nI pa), .int (nI fl), .ref a9, .int (nI (0 + 1)), .ref a10])), (a9, .inl (D.1 100, 12, .inl (upd lo 0 (nI (97 + c))))), (a1, .inl (D.1 100, 3318, .inl w))]) hX dX7_layPair_10 cw_X7_221 (ct_X7_put  (by omega)) 0 8 [0, 1] rfl rfl rfl rfl (by decide) rfl rfl ⟨by decide, by decide⟩ (Nat.le_of_ble_eq_true rfl) (Nat.le_refl _) (Nat.le_refl _) rfl ?_
  refine g_aload_n hX dX7_layPair_13 rfl ?_
  refine g_bipush hX dX7_layPair_14 kn_b_97 ?_
  refine g_iload_n hX dX7_layPair_16 rfl ?_
  refine g_iaddN hX dX7_layPair_17 ?_
  refine g_callFv (ws' := [(a0, .inr (8, [.ref a1, .int (nI uk), .int kp, .int sd, .ref a2, .ref a3, .int (nI sz), .int fa, .ref a4, .ref a5, .ref a6, .int (nI wr), .ref a7, .ref a8, .int (nI pa), .int (nI fl), .ref a9, .int (nI ((0 + 1) + 1)), .ref a10])), (a9, .inl (D.1 100, 12, .inl (upd (upd lo 0 (nI (97 + c))) (0 + 1) (nI (97 + d))))), (a1, .inl (D.1 100, 3318, .inl w))]) hX dX7_layPair_18 cw_X7_221 (ct_X7_put  (by omega)) 0 8 [0, 1] rfl rfl rfl rfl (by decide) rfl rfl ⟨by decide, by decide⟩ (Nat.le_of_ble_eq_true rfl) (Nat.le_refl _) (Nat.le_refl _) rfl ?_
  refine g_aload_n hX dX7_layPair_21 rfl ?_
  refine g_bipush hX dX7_layPair_22 kn_b_32 ?_
  refine g_callFv (ws' := [(a0, .inr (8, [.ref a1, .int (nI uk), .int kp, .int sd, .ref a2, .ref a3, .int (nI sz), .int fa, .ref a4, .ref a5, .ref a6, .int (nI wr), .ref a7, .ref a8, .int (nI pa), .int (nI fl), .ref a9, .int (nI (((0 + 1) + 1) + 1)), .ref a10])), (a9, .inl (D.1 100, 12, .inl (upd (upd (upd lo 0 (nI (97 + c))) (0 + 1) (nI (97 + d))) ((0 + 1) + 1) (nI 32)))), (a1, .inl (D.1 100, 3318, .inl w))]) hX dX7_layPair_24 cw_X7_221 (ct_X7_put  (by omega)) 0 8 [0, 1] rfl rfl rfl rfl (by decide) rfl rfl ⟨by decide, by decide⟩ (Nat.le_of_ble_eq_true rfl) (Nat.le_refl _) (Nat.le_refl _) rfl ?_
  refine g_aload_n hX dX7_layPair_27 rfl ?_
  refine g_aload_n hX dX7_layPair_28 rfl ?_
  refine g_iload_n hX dX7_layPair_29 rfl ?_
  refine g_iload_n hX dX7_layPair_30 rfl ?_
  refine g_callRi hX dX7_layPair_31 cw_X7_105 (ct_X7_judgedOf  (by first | with_reducible assumption | rfl) (by omega) (by omega)) 0 8 [0, 2] rfl rfl rfl rfl (by decide) rfl ⟨by decide, by decide⟩ (Nat.le_of_ble_eq_true rfl) (Nat.le_refl _) (Nat.le_refl _) ?_
  refine g_callFv (ws' := [(a0, .inr (8, [.ref a1, .int (nI uk), .int kp, .int sd, .ref a2, .ref a3, .int (nI sz), .int fa, .ref a4, .ref a5, .ref a6, .int (nI wr), .ref a7, .ref a8, .int (nI pa), .int (nI fl), .ref a9, .int (nI ((((0 + 1) + 1) + 1) + (numL (w (94 + 8 * c + d))).length)), .ref a10])), (a9, .inl (D.1 100, 12, .inl (putL (upd (upd (upd lo 0 (nI (97 + c))) (0 + 1) (nI (97 + d))) ((0 + 1) + 1) (nI 32)) (((0 + 1) + 1) + 1) (numL (w (94 + 8 * c + d)))))), (a1, .inl (D.1 100, 3318, .inl w))]) hX dX7_layPair_34 cw_X7_224 (ct_X7_putNumber  (by omega)) 0 8 [0, 1] rfl rfl rfl rfl (by decide) rfl rfl ⟨by decide, by decide⟩ (Nat.le_of_ble_eq_true rfl) (Nat.le_refl _) (Nat.le_refl _) rfl ?_
  subst hQ
  exact g_vret hX dX7_layPair_37 rfl (by rw [show (pairL w c d).length = 0 + 1 + 1 + 1 + (numL (w (94 + 8 * c + d))).length by simp [pairL]; omega]; rfl) rfl rfl
