set_option maxRecDepth 100000 in
set_option maxHeartbeats 4000000 in
theorem ct_X7_edge {l : Launch} {D : va_G} {a0 a1 : Nat} {fs : List Value} {w : Nat → Int32} {c side h : Int32} (hf : fs[0]? = some (.ref a1)) : Cf l D yX7_edge cX7_edge 4 (some .int) 2 46 [.ref a0, .int c, .int side, .int h] [(a0, .inr (8, fs)), (a1, .inl (D.1 100, 3318, .inl w))] (some (.int (edgeV w c side h))) [(a0, .inr (8, fs)), (a1, .inl (D.1 100, 3318, .inl w))] := by
  refine Ct.ofG (by decide) (Nat.le_of_ble_eq_true rfl) ?_
  intro X hX
  have hX : CX X l D RX7 "edge" cX7_edge 4 (some .int) 2 46 0 0 := hX
  show G X (QF X (some (.int (edgeV w c side h))) [(a0, .inr (8, fs)), (a1, .inl (D.1 100, 3318, .inl w))]) [(a0, .inr (8, fs)), (a1, .inl (D.1 100, 3318, .inl w))] 0 0 0 [some (.ref a0), some (.int c), some (.int side), some (.int h)] []
  generalize hQ : QF X (some (.int (edgeV w c side h))) [(a0, .inr (8, fs)), (a1, .inl (D.1 100, 3318, .inl w))] = Q
  refine g_aload_n hX dX7_edge_0 rfl ?_
  refine g_iload_n hX dX7_edge_1 rfl ?_
  refine g_callRi hX dX7_edge_2 cw_X7_69 (ct_X7_isKnown  (by first | with_reducible assumption | rfl)) 0 8 [0, 1] rfl rfl rfl rfl (by decide) rfl ⟨by decide, by decide⟩ (Nat.le_of_ble_eq_true rfl) (Nat.le_refl _) (Nat.le_refl _) ?_
  refine g_ifb_ne (tgt := 11) hX dX7_edge_5 (by decide) (fun h5 => ?_) (fun h5 => ?_)
  · skip
    obtain ⟨c1, hc1, ec1, kc1⟩ := isKn_in h5
    subst ec1
    refine g_iload_n hX dX7_edge_11 rfl ?_
    refine g_i2l hX dX7_edge_12 ?_
    refine g_lconst (v := 0) hX dX7_edge_13 rfl ?_
    refine g_lconst (v := 1) hX dX7_edge_14 rfl ?_
    refine g_callSRi hX dX7_edge_15 cw_X7_53 ct_X7_in [] rfl rfl (by decide) rfl ⟨by decide, by decide⟩ (Nat.le_of_ble_eq_true rfl) (Nat.le_refl _) (Nat.le_refl _) ?_
    refine g_ifb_eq (tgt := 43) hX dX7_edge_18 (by decide) (fun h18 => ?_) (fun h18 => ?_)
    · skip
      refine g_ldc hX dX7_edge_43 kc_X7_210 ?_
      subst hQ
      exact g_iret hX dX7_edge_45 (iR (edgeV_bad (by rw [isKn_n hc1]; exact kc1) (by rw [h18]; rfl))) (rfl) rfl rfl
    · skip
      refine g_iload_n hX dX7_edge_21 rfl ?_
      refine g_i2l hX dX7_edge_22 ?_
      refine g_lconst (v := 0) hX dX7_edge_23 rfl ?_
      refine g_ldc2 hX dX7_edge_24 kc_X7_261 ?_
      refine g_callSRi hX dX7_edge_27 cw_X7_53 ct_X7_in [] rfl rfl (by decide) rfl ⟨by decide, by decide⟩ (Nat.le_of_ble_eq_true rfl) (Nat.le_refl _) (Nat.le_refl _) ?_
      refine g_ifb_eq (tgt := 43) hX dX7_edge_30 (by decide) (fun h30 => ?_) (fun h30 => ?_)
      · skip
        refine g_ldc hX dX7_edge_43 kc_X7_210 ?_
        subst hQ
        exact g_iret hX dX7_edge_45 (iR (edgeV_bad (by rw [isKn_n hc1]; exact kc1) (by rw [h18, h30]; rfl))) (rfl) rfl rfl
      · skip
        obtain ⟨s1, hs1, es1⟩ := inT (n := 1) (by decide) h18
        subst es1
        obtain ⟨t1, ht1, et1⟩ := inT (n := 4) (by decide) h30
        subst et1
        refine g_aload_n hX dX7_edge_33 rfl ?_
        refine g_iload_n hX dX7_edge_34 rfl ?_
        refine g_iload_n hX dX7_edge_35 rfl ?_
        refine g_iload_n hX dX7_edge_36 rfl ?_
        refine g_callRi hX dX7_edge_37 cw_X7_61 (ct_X7_edgeOf  (by first | with_reducible assumption | rfl) (by omega) (by omega) (by omega)) 0 8 [0, 1] rfl rfl rfl rfl (by decide) rfl ⟨by decide, by decide⟩ (Nat.le_of_ble_eq_true rfl) (Nat.le_refl _) (Nat.le_refl _) ?_
        refine g_goto (tgt := 45) hX dX7_edge_40 (by decide) ?_
        subst hQ
        exact g_iret hX dX7_edge_45 (iR (edgeV_ok hc1 kc1 (by omega) (by omega))) (rfl) rfl rfl
  · skip
    refine g_ldc hX dX7_edge_8 kc_X7_239 ?_
    subst hQ
    exact g_iret hX dX7_edge_10 (iR (edgeV_no h5)) (rfl) rfl rfl
set_option maxRecDepth 100000 in
set_option maxHeartbeats 4000000 in
theorem ct_X7_far {l : Launch} {D : va_G} {a0 a1 : Nat} {fs : List Value} {w : Nat → Int32} {c d side : Int32} (hf : fs[0]? = some (.ref a1)) : Cf l D yX7_far cX7_far 4 (some .int) 2 51 [.ref a0, .int c, .int d, .int side] [(a0, .inr (8, fs)), (a1, .inl (D.1 100, 3318, .inl w))] (some (.int (farV w c d side))) [(a0, .inr (8, fs)), (a1, .inl (D.1 100, 3318, .inl w))] := by
  refine Ct.ofG (by decide) (Nat.le_of_ble_eq_true rfl) ?_
  intro X hX
  have hX : CX X l D RX7 "far" cX7_far 4 (some .int) 2 51 0 0 := hX
  show G X (QF X (some (.int (farV w c d side))) [(a0, .inr (8, fs)), (a1, .inl (D.1 100, 3318, .inl w))]) [(a0, .inr (8, fs)), (a1, .inl (D.1 100, 3318, .inl w))] 0 0 0 [some (.ref a0), some (.int c), some (.int d), some (.int side)] []
  generalize hQ : QF X (some (.int (farV w c d side))) [(a0, .inr (8, fs)), (a1, .inl (D.1 100, 3318, .inl w))] = Q
  refine g_aload_n hX dX7_far_0 rfl ?_
  refine g_iload_n hX dX7_far_1 rfl ?_
  refine g_callRi hX dX7_far_2 cw_X7_69 (ct_X7_isKnown  (by first | with_reducible assumption | rfl)) 0 8 [0, 1] rfl rfl rfl rfl (by decide) rfl ⟨by decide, by decide⟩ (Nat.le_of_ble_eq_true rfl) (Nat.le_refl _) (Nat.le_refl _) ?_
  refine g_ifb_eq (tgt := 16) hX dX7_far_5 (by decide) (fun h5 => ?_) (fun h5 => ?_)
  · skip
    refine g_ldc hX dX7_far_16 kc_X7_239 ?_
    subst hQ
    exact g_iret hX dX7_far_18 (iR (farV_no (by rw [h5]; rfl))) (rfl) rfl rfl
  · skip
    refine g_aload_n hX dX7_far_8 rfl ?_
    refine g_iload_n hX dX7_far_9 rfl ?_
    refine g_callRi hX dX7_far_10 cw_X7_69 (ct_X7_isKnown  (by first | with_reducible assumption | rfl)) 0 8 [0, 1] rfl rfl rfl rfl (by decide) rfl ⟨by decide, by decide⟩ (Nat.le_of_ble_eq_true rfl) (Nat.le_refl _) (Nat.le_refl _) ?_
    refine g_ifb_ne (tgt := 19) hX dX7_far_13 (by decide) (fun h13 => ?_) (fun h13 => ?_)
    · skip
      obtain ⟨c1, hc1, ec1, kc1⟩ := isKn_in h5
      subst ec1
      obtain ⟨d1, hd1, ed1, kd1⟩ := isKn_in h13
      subst ed1
      refine g_iload_n hX dX7_far_19 rfl ?_
      refine g_i2l hX dX7_far_20 ?_
      refine g_lconst (v := 0) hX dX7_far_21 rfl ?_
      refine g_lconst (v := 1) hX dX7_far_22 rfl ?_
      refine g_callSRi hX dX7_far_23 cw_X7_53 ct_X7_in [] rfl rfl (by decide) rfl ⟨by decide, by decide⟩ (Nat.le_of_ble_eq_true rfl) (Nat.le_refl _) (Nat.le_refl _) ?_
      refine g_ifb_eq (tgt := 39) hX dX7_far_26 (by decide) (fun h26 => ?_) (fun h26 => ?_)
      · skip
        refine g_ldc hX dX7_far_39 kc_X7_210 ?_
        subst hQ
        exact g_iret hX dX7_far_41 (iR (farV_bad hc1 hd1 kc1 kd1 h26)) (rfl) rfl rfl
      · skip
        have hb := h26
        obtain ⟨s1, hs1, es1⟩ := inT (n := 1) (by decide) h26
        subst es1
        refine g_aload_n hX dX7_far_29 rfl ?_
        refine g_iload_n hX dX7_far_30 rfl ?_
        refine g_iload_n hX dX7_far_31 rfl ?_
        refine g_iload_n hX dX7_far_32 rfl ?_
        refine g_callRi hX dX7_far_33 cw_X7_73 (ct_X7_farOf  (by first | with_reducible assumption | rfl) (by omega) (by omega) (by omega)) 0 8 [0, 1] rfl rfl rfl rfl (by decide) rfl ⟨by decide, by decide⟩ (Nat.le_of_ble_eq_true rfl) (Nat.le_refl _) (Nat.le_refl _) ?_
        refine g_goto (tgt := 41) hX dX7_far_36 (by decide) ?_
        subst hQ
        exact g_iret hX dX7_far_41 (iR (farV_ok hc1 hd1 kc1 kd1 hb (by omega))) (rfl) rfl rfl
    · skip
      refine g_ldc hX dX7_far_16 kc_X7_239 ?_
      subst hQ
      exact g_iret hX dX7_far_18 (iR (farV_no (by rw [h5, h13]; rfl))) (rfl) rfl rfl
set_option maxRecDepth 100000 in
set_option maxHeartbeats 4000000 in
theorem ct_X7_at {l : Launch} {D : va_G} {a0 a1 a2 a3 a4 a5 a6 a7 a8 a9 a10 uk sz wr pa fl ln : Nat} {kp sd fa : Int32} {w q cl : Nat → Int32} {c what : Int32}  : Ct (S := Int32 × (Nat → Int32) × (Nat → Int32)) l D yX7_at cX7_at 3 (some .int) 6 150 0 0 [.ref a0, .int c, .int what] [(a0, .inr (8, [.ref a1, .int (nI uk), .int kp, .int sd, .ref a2, .ref a3, .int (nI sz), .int fa, .ref a4, .ref a5, .ref a6, .int (nI wr), .ref a7, .ref a8, .int (nI pa), .int (nI fl), .ref a9, .int (nI ln), .ref a10])), (a1, .inl (D.1 100, 3318, .inl w)), (a7, .inl (D.1 100, 16, .inl q)), (a8, .inl (D.1 100, 2, .inl cl))] (fun (r : Option Value) (u : Int32 × (Nat → Int32) × (Nat → Int32)) => match u with | (V, Qn, Cn) => r = (some (.int V)) ∧ (V = atV w c what)) (fun (u : Int32 × (Nat → Int32) × (Nat → Int32)) => match u with | (V, Qn, Cn) => ([(a0, .inr (8, [.ref a1, .int (nI uk), .int kp, .int sd, .ref a2, .ref a3, .int (nI sz), .int fa, .ref a4, .ref a5, .ref a6, .int (nI wr), .ref a7, .ref a8, .int (nI pa), .int (nI fl), .ref a9, .int (nI ln), .ref a10])), (a1, .inl (D.1 100, 3318, .inl w)), (a7, .inl (D.1 100, 16, .inl Qn)), (a8, .inl (D.1 100, 2, .inl Cn))] : va_W)) := by
  refine Ct.ofG (by decide) (Nat.le_of_ble_eq_true rfl) ?_
  intro X hX
  have hX : CX X l D RX7 "at" cX7_at 3 (some .int) 6 150 0 0 := hX
  show G X (QM X 0 0 (fun (r : Option Value) (u : Int32 × (Nat → Int32) × (Nat → Int32)) => match u with | (V, Qn, Cn) => r = (some (.int V)) ∧ (V = atV w c what)) (fun (u : Int32 × (Nat → Int32) × (Nat → Int32)) => match u with | (V, Qn, Cn) => ([(a0, .inr (8, [.ref a1, .int (nI uk), .int kp, .int sd, .ref a2, .ref a3, .int (nI sz), .int fa, .ref a4, .ref a5, .ref a6, .int (nI wr), .ref a7, .ref a8, .int (nI pa), .int (nI fl), .ref a9, .int (nI ln), .ref a10])), (a1, .inl (D.1 100, 3318, .inl w)), (a7, .inl (D.1 100, 16, .inl Qn)), (a8, .inl (D.1 100, 2, .inl Cn))] : va_W))) [(a0, .inr (8, [.ref a1, .int (nI uk), .int kp, .int sd, .ref a2, .ref a3, .int (nI sz), .int fa, .ref a4, .ref a5, .ref a6, .int (nI wr), .ref a7, .ref a8, .int (nI pa), .int (nI fl), .ref a9, .int (nI ln), .ref a10])), (a1, .inl (D.1 100, 3318, .inl w)), (a7, .inl (D.1 100, 16, .inl q)), (a8, .inl (D.1 100, 2, .inl cl))] 0 0 0 [some (.ref a0), some (.int c), some (.int what)] []
  generalize hQ : QM X 0 0 (fun (r : Option Value) (u : Int32 × (Nat → Int32) × (Nat → Int32)) => match u with | (V, Qn, Cn) => r = (some (.int V)) ∧ (V = atV w c what)) (fun (u : Int32 × (Nat → Int32) × (Nat → Int32)) => match u with | (V, Qn, Cn) => ([(a0, .inr (8, [.ref a1, .int (nI uk), .int kp, .int sd, .ref a2, .ref a3, .int (nI sz), .int fa, .ref a4, .ref a5, .ref a6, .int (nI wr), .ref a7, .ref a8, .int (nI pa), .int (nI fl), .ref a9, .int (nI ln), .ref a10])), (a1, .inl (D.1 100, 3318, .inl w)), (a7, .inl (D.1 100, 16, .inl Qn)), (a8, .inl (D.1 100, 2, .inl Cn))] : va_W)) = Q
  refine g_aload_n hX dX7_at_0 rfl ?_
  refine g_iload_n hX dX7_at_1 rfl ?_
  refine g_callRi hX dX7_at_2 cw_X7_69 (ct_X7_isKnown  (by first | with_reducible assumption | rfl)) 0 8 [0, 1] rfl rfl rfl rfl (by decide) rfl ⟨by decide, by decide⟩ (Nat.le_of_ble_eq_true rfl) (Nat.le_refl _) (Nat.le_refl _) ?_
  refine g_ifb_ne (tgt := 11) hX dX7_at_5 (by decide) (fun h5 => ?_) (fun h5 => ?_)
  · skip
    obtain ⟨c1, hc1, ec1, kc1⟩ := isKn_in h5
    subst ec1
    refine g_aload_n hX dX7_at_11 rfl ?_
    refine g_callFv (ws' := [(a0, .inr (8, [.ref a1, .int (nI uk), .int kp, .int sd, .ref a2, .ref a3, .int (nI sz), .int fa, .ref a4, .ref a5, .ref a6, .int (nI wr), .ref a7, .ref a8, .int (nI pa), .int (nI fl), .ref a9, .int (nI ln), .ref a10])), (a1, .inl (D.1 100, 3318, .inl w)), (a7, .inl (D.1 100, 16, .inl (layQ w q))), (a8, .inl (D.1 100, 2, .inl (layC w cl)))]) hX dX7_at_12 cw_X7_233 (ct_X7_layClasses  (by first | with_reducible assumption | rfl) (by first | with_reducible assumption | rfl) (by first | with_reducible assumption | rfl)) 0 8 [0, 1, 2, 3] rfl rfl rfl rfl (by decide) rfl rfl ⟨by decide, by decide⟩ (Nat.le_of_ble_eq_true rfl) (Nat.le_refl _) (Nat.le_refl _) rfl ?_
    refine g_iload_n hX dX7_at_15 rfl ?_
    refine g_if_ne (tgt := 31) hX dX7_at_16 (by decide) (fun h16 => ?_) (fun h16 => ?_)
    · skip
      refine g_iload_n hX dX7_at_31 rfl ?_
      refine g_iconst hX dX7_at_32 kn_i_1 ?_
      refine g_icmp_ne (tgt := 45) hX dX7_at_33 (by decide) (fun h33 => ?_) (fun h33 => ?_)
      · skip
        refine g_iload_n hX dX7_at_45 rfl ?_
        refine g_iconst hX dX7_at_46 kn_i_2 ?_
        refine g_icmp_ne (tgt := 62) hX dX7_at_47 (by decide) (fun h47 => ?_) (fun h47 => ?_)
        · skip
          refine g_ldc hX dX7_at_62 kc_X7_210 ?_
          subst hQ
          exact g_zretU hX dX7_at_64 (vp_nar_int _) ((-1000000002), layQ w q, layC w cl) (⟨rfl, (atV_bad hc1 kc1 h16 h33 h47).symm⟩) rfl (Nat.le_refl _) (Nat.le_refl _)
        · skip
          refine g_aload_n hX dX7_at_50 rfl ?_
          refine g_getf hX dX7_at_51 fk_X7_32 0 rfl rfl ?_
          refine g_bipush hX dX7_at_54 kn_b_8 ?_
          refine g_iload_n hX dX7_at_56 rfl ?_
          refine g_iaddN hX dX7_at_57 ?_
          refine g_iald hX dX7_at_58 2 rfl (by decide) (by omega) ?_
          refine g_goto (tgt := 64) hX dX7_at_59 (by decide) ?_
          subst hQ
          exact g_zretU hX dX7_at_64 (vp_nar_int _) ((layQ w q) (8 + c1), layQ w q, layC w cl) (⟨rfl, ((atV_r hc1 kc1 h16 h33 h47).trans (layQ_lt (by omega)).symm).symm⟩) rfl (Nat.le_refl _) (Nat.le_refl _)
      · skip
        refine g_aload_n hX dX7_at_36 rfl ?_
        refine g_getf hX dX7_at_37 fk_X7_32 0 rfl rfl ?_
        refine g_iload_n hX dX7_at_40 rfl ?_
        refine g_iald hX dX7_at_41 2 rfl (by decide) (by omega) ?_
        refine g_goto (tgt := 64) hX dX7_at_42 (by decide) ?_
        subst hQ
        exact g_zretU hX dX7_at_64 (vp_nar_int _) ((layQ w q) c1, layQ w q, layC w cl) (⟨rfl, ((atV_l hc1 kc1 h16 h33).trans (layQ_lt (by omega)).symm).symm⟩) rfl (Nat.le_refl _) (Nat.le_refl _)
    · skip
      refine g_aload_n hX dX7_at_19 rfl ?_
      refine g_getf hX dX7_at_20 fk_X7_7 0 rfl rfl ?_
      refine g_bipush hX dX7_at_23 kn_b_86 ?_
      refine g_iload_n hX dX7_at_25 rfl ?_
      refine g_iaddN hX dX7_at_26 ?_
      refine g_iald hX dX7_at_27 1 rfl (by decide) (by omega) ?_
      refine g_goto (tgt := 64) hX dX7_at_28 (by decide) ?_
      subst hQ
      exact g_zretU hX dX7_at_64 (vp_nar_int _) (w (86 + c1), layQ w q, layC w cl) (⟨rfl, (atV_w hc1 kc1 h16).symm⟩) rfl (Nat.le_refl _) (Nat.le_refl _)
  · skip
    refine g_ldc hX dX7_at_8 kc_X7_239 ?_
    subst hQ
    exact g_zretU hX dX7_at_10 (vp_nar_int _) ((-1000000001), q, cl) (⟨rfl, (atV_no h5).symm⟩) rfl (Nat.le_refl _) (Nat.le_refl _)
set_option maxRecDepth 100000 in
set_option maxHeartbeats 4000000 in
theorem ct_X7_pair {l : Launch} {D : va_G} {a0 a1 a2 a3 a4 a5 a6 a7 a8 a9 a10 uk sz wr pa fl ln : Nat} {kp sd fa : Int32} {w q cl : Nat → Int32} {c d what : Int32}  : Ct (S := Int32 × (Nat → Int32) × (Nat → Int32)) l D yX7_pair cX7_pair 4 (some .int) 9 215 0 0 [.ref a0, .int c, .int d, .int what] [(a0, .inr (8, [.ref a1, .int (nI uk), .int kp, .int sd, .ref a2, .ref a3, .int (nI sz), .int fa, .ref a4, .ref a5, .ref a6, .int (nI wr), .ref a7, .ref a8, .int (nI pa), .int (nI fl), .ref a9, .int (nI ln), .ref a10])), (a1, .inl (D.1 100, 3318, .inl w)), (a7, .inl (D.1 100, 16, .inl q)), (a8, .inl (D.1 100, 2, .inl cl))] (fun (r : Option Value) (u : Int32 × (Nat → Int32) × (Nat → Int32)) => match u with | (V, Qn, Cn) => r = (some (.int V)) ∧ (V = pairV w c d what)) (fun (u : Int32 × (Nat → Int32) × (Nat → Int32)) => match u with | (V, Qn, Cn) => ([(a0, .inr (8, [.ref a1, .int (nI uk), .int kp, .int sd, .ref a2, .ref a3, .int (nI sz), .int fa, .ref a4, .ref a5, .ref a6, .int (nI wr), .ref a7, .ref a8, .int (nI pa), .int (nI fl), .ref a9, .int (nI ln), .ref a10])), (a1, .inl (D.1 100, 3318, .inl w)), (a7, .inl (D.1 100, 16, .inl Qn)), (a8, .inl (D.1 100, 2, .inl Cn))] : va_W)) := by
  refine Ct.ofG (by decide) (Nat.le_of_ble_eq_true rfl) ?_
  intro X hX
  have hX : CX X l D RX7 "pair" cX7_pair 4 (some .int) 9 215 0 0 := hX
  show G X (QM X 0 0 (fun (r : Option Value) (u : Int32 × (Nat → Int32) × (Nat → Int32)) => match u with | (V, Qn, Cn) => r = (some (.int V)) ∧ (V = pairV w c d what)) (fun (u : Int32 × (Nat → Int32) × (Nat → Int32)) => match u with | (V, Qn, Cn) => ([(a0, .inr (8, [.ref a1, .int (nI uk), .int kp, .int sd, .ref a2, .ref a3, .int (nI sz), .int fa, .ref a4, .ref a5, .ref a6, .int (nI wr), .ref a7, .ref a8, .int (nI pa), .int (nI fl), .ref a9, .int (nI ln), .ref a10])), (a1, .inl (D.1 100, 3318, .inl w)), (a7, .inl (D.1 100, 16, .inl Qn)), (a8, .inl (D.1 100, 2, .inl Cn))] : va_W))) [(a0, .inr (8, [.ref a1, .int (nI uk), .int kp, .int sd, .ref a2, .ref a3, .int (nI sz), .int fa, .ref a4, .ref a5, .ref a6, .int (nI wr), .ref a7, .ref a8, .int (nI pa), .int (nI fl), .ref a9, .int (nI ln), .ref a10])), (a1, .inl (D.1 100, 3318, .inl w)), (a7, .inl (D.1 100, 16, .inl q)), (a8, .inl (D.1 100, 2, .inl cl))] 0 0 0 [some (.ref a0), some (.int c), some (.int d), some (.int what)] []
  generalize hQ : QM X 0 0 (fun (r : Option Value) (u : Int32 × (Nat → Int32) × (Nat → Int32)) => match u with | (V, Qn, Cn) => r = (some (.int V)) ∧ (V = pairV w c d what)) (fun (u : Int32 × (Nat → Int32) × (Nat → Int32)) => match u with | (V, Qn, Cn) => ([(a0, .inr (8, [.ref a1, .int (nI uk), .int kp, .int sd, .ref a2, .ref a3, .int (nI sz), .int fa, .ref a4, .ref a5, .ref a6, .int (nI wr), .ref a7, .ref a8, .int (nI pa), .int (nI fl), .ref a9, .int (nI ln), .ref a10])), (a1, .inl (D.1 100, 3318, .inl w)), (a7, .inl (D.1 100, 16, .inl Qn)), (a8, .inl (D.1 100, 2, .inl Cn))] : va_W)) = Q
  refine g_aload_n hX dX7_pair_0 rfl ?_
  refine g_iload_n hX dX7_pair_1 rfl ?_
  refine g_callRi hX dX7_pair_2 cw_X7_69 (ct_X7_isKnown  (by first | with_reducible assumption | rfl)) 0 8 [0, 1] rfl rfl rfl rfl (by decide) rfl ⟨by decide, by decide⟩ (Nat.le_of_ble_eq_true rfl) (Nat.le_refl _) (Nat.le_refl _) ?_
  refine g_ifb_eq (tgt := 16) hX dX7_pair_5 (by decide) (fun h5 => ?_) (fun h5 => ?_)
  · skip
    refine g_ldc hX dX7_pair_16 kc_X7_239 ?_
    subst hQ
    exact g_zretU hX dX7_pair_18 (vp_nar_int _) ((-1000000001), q, cl) (⟨rfl, (pairV_no (by rw [h5]; rfl)).symm⟩) rfl (Nat.le_refl _) (Nat.le_refl _)
  · skip
    refine g_aload_n hX dX7_pair_8 rfl ?_
    refine g_iload_n hX dX7_pair_9 rfl ?_
    refine g_callRi hX dX7_pair_10 cw_X7_69 (ct_X7_isKnown  (by first | with_reducible assumption | rfl)) 0 8 [0, 1] rfl rfl rfl rfl (by decide) rfl ⟨by decide, by decide⟩ (Nat.le_of_ble_eq_true rfl) (Nat.le_refl _) (Nat.le_refl _) ?_
    refine g_ifb_ne (tgt := 19) hX dX7_pair_13 (by decide) (fun h13 => ?_) (fun h13 => ?_)
    · skip
      obtain ⟨c1, hc1, ec1, kc1⟩ := isKn_in h5
      subst ec1
      obtain ⟨d1, hd1, ed1, kd1⟩ := isKn_in h13
      subst ed1
      refine g_aload_n hX dX7_pair_19 rfl ?_
      refine g_callFv (ws' := [(a0, .inr (8, [.ref a1, .int (nI uk), .int kp, .int sd, .ref a2, .ref a3, .int (nI sz), .int fa, .ref a4, .ref a5, .ref a6, .int (nI wr), .ref a7, .ref a8, .int (nI pa), .int (nI fl), .ref a9, .int (nI ln), .ref a10])), (a1, .inl (D.1 100, 3318, .inl w)), (a7, .inl (D.1 100, 16, .inl (layQ w q))), (a8, .inl (D.1 100, 2, .inl (layC w cl)))]) hX dX7_pair_20 cw_X7_233 (ct_X7_layClasses  (by first | with_reducible assumption | rfl) (by first | with_reducible assumption | rfl) (by first | with_reducible assumption | rfl)) 0 8 [0, 1, 2, 3] rfl rfl rfl rfl (by decide) rfl rfl ⟨by decide, by decide⟩ (Nat.le_of_ble_eq_true rfl) (Nat.le_refl _) (Nat.le_refl _) rfl ?_
      refine g_iload_n hX dX7_pair_23 rfl ?_
      by_cases hs24_0 : what = nI 0
      · subst hs24_0
        refine g_tswj (tgt := 60) hX dX7_pair_24 0 rfl (by decide) rfl (by decide) ?_
        refine g_aload_n hX dX7_pair_60 rfl ?_
        refine g_iload_n hX dX7_pair_61 rfl ?_
        refine g_iload_n hX dX7_pair_62 rfl ?_
        refine g_callRi hX dX7_pair_63 cw_X7_129 (ct_X7_gapOf  (by first | with_reducible assumption | rfl) (by first | with_reducible assumption | rfl) (by omega) (by omega) (below_ne_self hc1 hd1 kc1 kd1)) 0 8 [0, 1, 2] rfl rfl rfl rfl (by decide) rfl ⟨by decide, by decide⟩ (Nat.le_of_ble_eq_true rfl) (Nat.le_refl _) (Nat.le_refl _) ?_
        subst hQ
        exact g_zretU hX dX7_pair_66 (vp_nar_int _) (gapOf w (layQ w q) c1 d1, layQ w q, layC w cl) (⟨rfl, (gapOf_q (cq_q w q) hc1 hd1).trans (pairV_0 hc1 hd1 kc1 kd1).symm⟩) rfl (Nat.le_refl _) (Nat.le_refl _)
      by_cases hs24_1 : what = nI 1
      · subst hs24_1
        refine g_tswj (tgt := 67) hX dX7_pair_24 1 rfl (by decide) rfl (by decide) ?_
        refine g_aload_n hX dX7_pair_67 rfl ?_
        refine g_iload_n hX dX7_pair_68 rfl ?_
        refine g_iload_n hX dX7_pair_69 rfl ?_
        refine g_callRi hX dX7_pair_70 cw_X7_105 (ct_X7_judgedOf  (by first | with_reducible assumption | rfl) (by omega) (by omega)) 0 8 [0, 1] rfl rfl rfl rfl (by decide) rfl ⟨by decide, by decide⟩ (Nat.le_of_ble_eq_true rfl) (Nat.le_refl _) (Nat.le_refl _) ?_
        refine g_if_le (tgt := 85) hX dX7_pair_73 (by decide) (fun h73 => ?_) (fun h73 => ?_)
        · skip
          refine g_iconst hX dX7_pair_85 kn_i_m1 ?_
          subst hQ
          exact g_zretU hX dX7_pair_86 (vp_nar_int _) ((-1), layQ w q, layC w cl) (⟨rfl, ((pairV_1 hc1 hd1 kc1 kd1).trans (if_pos h73)).symm⟩) rfl (Nat.le_refl _) (Nat.le_refl _)
        · skip
          refine g_aload_n hX dX7_pair_76 rfl ?_
          refine g_iload_n hX dX7_pair_77 rfl ?_
          refine g_iload_n hX dX7_pair_78 rfl ?_
          refine g_callRi hX dX7_pair_79 cw_X7_105 (ct_X7_judgedOf  (by first | with_reducible assumption | rfl) (by omega) (by omega)) 0 8 [0, 1] rfl rfl rfl rfl (by decide) rfl ⟨by decide, by decide⟩ (Nat.le_of_ble_eq_true rfl) (Nat.le_refl _) (Nat.le_refl _) ?_
          refine g_goto (tgt := 86) hX dX7_pair_82 (by decide) ?_
          subst hQ
          exact g_zretU hX dX7_pair_86 (vp_nar_int _) (w (94 + 8 * c1 + d1), layQ w q, layC w cl) (⟨rfl, ((pairV_1 hc1 hd1 kc1 kd1).trans (if_neg h73)).symm⟩) rfl (Nat.le_refl _) (Nat.le_refl _)
      by_cases hs24_2 : what = nI 2
      · subst hs24_2
        refine g_tswj (tgt := 87) hX dX7_pair_24 2 rfl (by decide) rfl (by decide) ?_
        refine g_aload_n hX dX7_pair_87 rfl ?_
        refine g_iload_n hX dX7_pair_88 rfl ?_
        refine g_iload_n hX dX7_pair_89 rfl ?_
        refine g_callRi hX dX7_pair_90 cw_X7_123 (ct_X7_isStrange  (by first | with_reducible assumption | rfl) (by first | with_reducible assumption | rfl) (by omega) (by omega)) 0 8 [0, 1, 2] rfl rfl rfl rfl (by decide) rfl ⟨by decide, by decide⟩ (Nat.le_of_ble_eq_true rfl) (Nat.le_refl _) (Nat.le_refl _) ?_
        refine g_ifb_eq (tgt := 100) hX dX7_pair_93 (by decide) (fun h93 => ?_) (fun h93 => ?_)
        · skip
          refine g_iconst hX dX7_pair_100 kn_i_0 ?_
          subst hQ
          exact g_zretU hX dX7_pair_101 (vp_nar_int _) ((nI 0), layQ w q, layC w cl) (⟨rfl, by rw [pairV_2 hc1 hd1 kc1 kd1, ← strB_q (cq_q w q) hc1 hd1, h93]; rfl⟩) rfl (Nat.le_refl _) (Nat.le_refl _)
        · skip
          refine g_iconst hX dX7_pair_96 kn_i_1 ?_
          refine g_goto (tgt := 101) hX dX7_pair_97 (by decide) ?_
          subst hQ
          exact g_zretU hX dX7_pair_101 (vp_nar_int _) ((nI 1), layQ w q, layC w cl) (⟨rfl, by rw [pairV_2 hc1 hd1 kc1 kd1, ← strB_q (cq_q w q) hc1 hd1, h93]; rfl⟩) rfl (Nat.le_refl _) (Nat.le_refl _)
      by_cases hs24_3 : what = nI 3
      · subst hs24_3
        refine g_tswj (tgt := 102) hX dX7_pair_24 3 rfl (by decide) rfl (by decide) ?_
        refine g_aload_n hX dX7_pair_102 rfl ?_
        refine g_iload_n hX dX7_pair_103 rfl ?_
        refine g_iload_n hX dX7_pair_104 rfl ?_
        refine g_callRi hX dX7_pair_105 cw_X7_108 (ct_X7_sight  (by first | with_reducible assumption | rfl) (by omega) (by omega)) 0 8 [0, 1] rfl rfl rfl rfl (by decide) rfl ⟨by decide, by decide⟩ (Nat.le_of_ble_eq_true rfl) (Nat.le_refl _) (Nat.le_refl _) ?_
        refine g_bipush hX dX7_pair_108 kn_b_100 ?_
        refine g_iadd hX dX7_pair_110 ?_
        subst hQ
        exact g_zretU hX dX7_pair_111 (vp_nar_int _) ((sight w c1 d1) + (nI 100), layQ w q, layC w cl) (⟨rfl, (pairV_3 hc1 hd1 kc1 kd1).symm⟩) rfl (Nat.le_refl _) (Nat.le_refl _)
      by_cases hs24_4 : what = nI 4
      · subst hs24_4
        refine g_tswj (tgt := 112) hX dX7_pair_24 4 rfl (by decide) rfl (by decide) ?_
        refine g_aload_n hX dX7_pair_112 rfl ?_
        refine g_iload_n hX dX7_pair_113 rfl ?_
        refine g_iload_n hX dX7_pair_114 rfl ?_
        refine g_aload_n hX dX7_pair_115 rfl ?_
        refine g_iload_n hX dX7_pair_116 rfl ?_
        refine g_iload_n hX dX7_pair_117 rfl ?_
        refine g_callRi hX dX7_pair_118 cw_X7_129 (ct_X7_gapOf  (by first | with_reducible assumption | rfl) (by first | with_reducible assumption | rfl) (by omega) (by omega) (below_ne_self hc1 hd1 kc1 kd1)) 0 8 [0, 1, 2] rfl rfl rfl rfl (by decide) rfl ⟨by decide, by decide⟩ (Nat.le_of_ble_eq_true rfl) (Nat.le_refl _) (Nat.le_refl _) ?_
        refine g_bipush hX dX7_pair_121 kn_b_100 ?_
        refine g_isub hX dX7_pair_123 ?_
        refine g_callRi hX dX7_pair_124 cw_X7_91 (ct_X7_white  (by first | with_reducible assumption | rfl) (by omega) (by omega)) 0 8 [0, 1] rfl rfl rfl rfl (by decide) rfl ⟨by decide, by decide⟩ (Nat.le_of_ble_eq_true rfl) (Nat.le_refl _) (Nat.le_refl _) ?_
        subst hQ
        exact g_zretU hX dX7_pair_127 (vp_nar_int _) (white w c1 d1 ((gapOf w (layQ w q) c1 d1) - (nI 100)), layQ w q, layC w cl) (⟨rfl, by rw [pairV_4 hc1 hd1 kc1 kd1, ← gapOf_q (cq_q w q) hc1 hd1]⟩) rfl (Nat.le_refl _) (Nat.le_refl _)
      have hsw24 : what.toInt < 0 ∨ 4 < what.toInt := sw_out (lo := 0) (n := 5) (by decide) (fun j hj => match j, hj with | 0, _ => hs24_0 | 1, _ => hs24_1 | 2, _ => hs24_2 | 3, _ => hs24_3 | 4, _ => hs24_4 | j + 5, hj => absurd hj (by omega))
      refine g_tswo (tgt := 128) hX dX7_pair_24 hsw24 (by decide) ?_
      refine g_ldc hX dX7_pair_128 kc_X7_210 ?_
      subst hQ
      exact g_zretU hX dX7_pair_130 (vp_nar_int _) ((-1000000002), layQ w q, layC w cl) (⟨rfl, (pairV_o hc1 hd1 kc1 kd1 hs24_0 hs24_1 hs24_2 hs24_3 hs24_4).symm⟩) rfl (Nat.le_refl _) (Nat.le_refl _)
    · skip
      refine g_ldc hX dX7_pair_16 kc_X7_239 ?_
      subst hQ
      exact g_zretU hX dX7_pair_18 (vp_nar_int _) ((-1000000001), q, cl) (⟨rfl, (pairV_no (by rw [h5, h13]; rfl)).symm⟩) rfl (Nat.le_refl _) (Nat.le_refl _)
