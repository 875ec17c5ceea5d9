set_option maxRecDepth 100000 in
set_option maxHeartbeats 4000000 in
theorem ct_X7_cell {l : Launch} {D : va_G} {a0 a1 a2 a3 a4 a5 a6 a7 a8 a9 a10 uk sz wr pa fl ln : Nat} {kp sd fa : Int32} {w q cl : Nat → Int32} {i j what : Int32} (hw : okW w) : Ct (S := Int32 × (Nat → Int32) × (Nat → Int32)) l D yX7_cell cX7_cell 4 (some .int) 8 193 0 0 [.ref a0, .int i, .int j, .int what] [(a0, .inr (8, [.ref a1, .int (nI uk), .int kp, .int sd, .ref a2, .ref a3, .int (nI sz), .int fa, .ref a4, .ref a5, .ref a6, .int (nI wr), .ref a7, .ref a8, .int (nI pa), .int (nI fl), .ref a9, .int (nI ln), .ref a10])), (a1, .inl (D.1 100, 3318, .inl w)), (a7, .inl (D.1 100, 16, .inl q)), (a8, .inl (D.1 100, 2, .inl cl))] (fun (r : Option Value) (u : Int32 × (Nat → Int32) × (Nat → Int32)) => match u with | (V, Qn, Cn) => r = (some (.int V)) ∧ (V = cellV w i j what)) (fun (u : Int32 × (Nat → Int32) × (Nat → Int32)) => match u with | (V, Qn, Cn) => ([(a0, .inr (8, [.ref a1, .int (nI uk), .int kp, .int sd, .ref a2, .ref a3, .int (nI sz), .int fa, .ref a4, .ref a5, .ref a6, .int (nI wr), .ref a7, .ref a8, .int (nI pa), .int (nI fl), .ref a9, .int (nI ln), .ref a10])), (a1, .inl (D.1 100, 3318, .inl w)), (a7, .inl (D.1 100, 16, .inl Qn)), (a8, .inl (D.1 100, 2, .inl Cn))] : va_W)) := by
  refine Ct.ofG (by decide) (Nat.le_of_ble_eq_true rfl) ?_
  intro X hX
  have hX : CX X l D RX7 "cell" cX7_cell 4 (some .int) 8 193 0 0 := hX
  show G X (QM X 0 0 (fun (r : Option Value) (u : Int32 × (Nat → Int32) × (Nat → Int32)) => match u with | (V, Qn, Cn) => r = (some (.int V)) ∧ (V = cellV w i j what)) (fun (u : Int32 × (Nat → Int32) × (Nat → Int32)) => match u with | (V, Qn, Cn) => ([(a0, .inr (8, [.ref a1, .int (nI uk), .int kp, .int sd, .ref a2, .ref a3, .int (nI sz), .int fa, .ref a4, .ref a5, .ref a6, .int (nI wr), .ref a7, .ref a8, .int (nI pa), .int (nI fl), .ref a9, .int (nI ln), .ref a10])), (a1, .inl (D.1 100, 3318, .inl w)), (a7, .inl (D.1 100, 16, .inl Qn)), (a8, .inl (D.1 100, 2, .inl Cn))] : va_W))) [(a0, .inr (8, [.ref a1, .int (nI uk), .int kp, .int sd, .ref a2, .ref a3, .int (nI sz), .int fa, .ref a4, .ref a5, .ref a6, .int (nI wr), .ref a7, .ref a8, .int (nI pa), .int (nI fl), .ref a9, .int (nI ln), .ref a10])), (a1, .inl (D.1 100, 3318, .inl w)), (a7, .inl (D.1 100, 16, .inl q)), (a8, .inl (D.1 100, 2, .inl cl))] 0 0 0 [some (.ref a0), some (.int i), some (.int j), some (.int what)] []
  generalize hQ : QM X 0 0 (fun (r : Option Value) (u : Int32 × (Nat → Int32) × (Nat → Int32)) => match u with | (V, Qn, Cn) => r = (some (.int V)) ∧ (V = cellV w i j what)) (fun (u : Int32 × (Nat → Int32) × (Nat → Int32)) => match u with | (V, Qn, Cn) => ([(a0, .inr (8, [.ref a1, .int (nI uk), .int kp, .int sd, .ref a2, .ref a3, .int (nI sz), .int fa, .ref a4, .ref a5, .ref a6, .int (nI wr), .ref a7, .ref a8, .int (nI pa), .int (nI fl), .ref a9, .int (nI ln), .ref a10])), (a1, .inl (D.1 100, 3318, .inl w)), (a7, .inl (D.1 100, 16, .inl Qn)), (a8, .inl (D.1 100, 2, .inl Cn))] : va_W)) = Q
  have hm0 := clM_le w 0
  have hm1 := clM_le w 1
  refine g_aload_n hX dX7_cell_0 rfl ?_
  refine g_callFv (ws' := [(a0, .inr (8, [.ref a1, .int (nI uk), .int kp, .int sd, .ref a2, .ref a3, .int (nI sz), .int fa, .ref a4, .ref a5, .ref a6, .int (nI wr), .ref a7, .ref a8, .int (nI pa), .int (nI fl), .ref a9, .int (nI ln), .ref a10])), (a1, .inl (D.1 100, 3318, .inl w)), (a7, .inl (D.1 100, 16, .inl (layQ w q))), (a8, .inl (D.1 100, 2, .inl (layC w cl)))]) hX dX7_cell_1 cw_X7_233 (ct_X7_layClasses  (by first | with_reducible assumption | rfl) (by first | with_reducible assumption | rfl) (by first | with_reducible assumption | rfl)) 0 8 [0, 1, 2, 3] rfl rfl rfl rfl (by decide) rfl rfl ⟨by decide, by decide⟩ (Nat.le_of_ble_eq_true rfl) (Nat.le_refl _) (Nat.le_refl _) rfl ?_
  refine g_iload_n hX dX7_cell_4 rfl ?_
  refine g_i2l hX dX7_cell_5 ?_
  refine g_lconst (v := 0) hX dX7_cell_6 rfl ?_
  refine g_aload_n hX dX7_cell_7 rfl ?_
  refine g_getf hX dX7_cell_8 fk_X7_35 0 rfl rfl ?_
  refine g_iconst hX dX7_cell_11 kn_i_1 ?_
  refine g_iald hX dX7_cell_12 3 rfl (by decide) (by omega) ?_
  refine g_top (v' := nI (clM w 1)) (layC_1 w cl) ?_
  refine g_iconst hX dX7_cell_13 kn_i_1 ?_
  refine g_isub hX dX7_cell_14 ?_
  refine g_i2l hX dX7_cell_15 ?_
  refine g_callSRi hX dX7_cell_16 cw_X7_53 ct_X7_in [] rfl rfl (by decide) rfl ⟨by decide, by decide⟩ (Nat.le_of_ble_eq_true rfl) (Nat.le_refl _) (Nat.le_refl _) ?_
  refine g_ifb_eq (tgt := 40) hX dX7_cell_19 (by decide) (fun h19 => ?_) (fun h19 => ?_)
  · skip
    refine g_ldc hX dX7_cell_40 kc_X7_239 ?_
    subst hQ
    exact g_zretU hX dX7_cell_42 (vp_nar_int _) ((-1000000001), layQ w q, layC w cl) (⟨rfl, (cellV_no (fun z => by rw [(inM (by omega)).mpr z.1] at h19; cases h19)).symm⟩) rfl (Nat.le_refl _) (Nat.le_refl _)
  · skip
    refine g_iload_n hX dX7_cell_22 rfl ?_
    refine g_i2l hX dX7_cell_23 ?_
    refine g_lconst (v := 0) hX dX7_cell_24 rfl ?_
    refine g_aload_n hX dX7_cell_25 rfl ?_
    refine g_getf hX dX7_cell_26 fk_X7_35 0 rfl rfl ?_
    refine g_iconst hX dX7_cell_29 kn_i_0 ?_
    refine g_iald hX dX7_cell_30 3 rfl (by decide) (by omega) ?_
    refine g_top (v' := nI (clM w 0)) (layC_0 w cl) ?_
    refine g_iconst hX dX7_cell_31 kn_i_1 ?_
    refine g_isub hX dX7_cell_32 ?_
    refine g_i2l hX dX7_cell_33 ?_
    refine g_callSRi hX dX7_cell_34 cw_X7_53 ct_X7_in [] rfl rfl (by decide) rfl ⟨by decide, by decide⟩ (Nat.le_of_ble_eq_true rfl) (Nat.le_refl _) (Nat.le_refl _) ?_
    refine g_ifb_ne (tgt := 43) hX dX7_cell_37 (by decide) (fun h37 => ?_) (fun h37 => ?_)
    · skip
      obtain ⟨i1, hi1, ei1⟩ := inM_n ((inM (by omega)).mp h19) (by omega)
      subst ei1
      obtain ⟨j1, hj1, ej1⟩ := inM_n ((inM (by omega)).mp h37) (by omega)
      subst ej1
      have hab := abo_n hw (layQ w q) (nI i1) (nI j1)
      have hbe := belowOf_n w (layQ w q) (nI i1) (nI j1)
      have hbp : 0 < bel w (layQ w q) (nI i1) (nI j1) := by rw [bel_q (cq_q w q)]; exact bel_cell hi1 hj1
      have hg1 := Nat.gcd_pos_of_pos_right (abo w (layQ w q) (nI i1) (nI j1)) hbp
      have hg2 := Nat.gcd_le_right (abo w (layQ w q) (nI i1) (nI j1)) hbp
      refine g_iload_n hX dX7_cell_43 rfl ?_
      by_cases hs44_0 : what = nI 0
      · subst hs44_0
        refine g_tswj (tgt := 84) hX dX7_cell_44 0 rfl (by decide) rfl (by decide) ?_
        refine g_aload_n hX dX7_cell_84 rfl ?_
        refine g_iload_n hX dX7_cell_85 rfl ?_
        refine g_iload_n hX dX7_cell_86 rfl ?_
        refine g_callRi hX dX7_cell_87 cw_X7_114 (ct_X7_pairsIn  (by first | with_reducible assumption | rfl) (by first | with_reducible assumption | rfl)) 0 8 [0, 1, 2] rfl rfl rfl rfl (by decide) rfl ⟨by decide, by decide⟩ (Nat.le_of_ble_eq_true rfl) (Nat.le_refl _) (Nat.le_refl _) ?_
        subst hQ
        exact g_zretU hX dX7_cell_90 (vp_nar_int _) (prC w (layQ w q) (nI i1) (nI j1) 64, layQ w q, layC w cl) (⟨rfl, (prC_q (cq_q w q) _ _ 64 (Nat.le_refl _)).trans (cellV_n hi1 hj1 (k := 0) (by decide)).symm⟩) rfl (Nat.le_refl _) (Nat.le_refl _)
      by_cases hs44_1 : what = nI 1
      · subst hs44_1
        refine g_tswj (tgt := 91) hX dX7_cell_44 1 rfl (by decide) rfl (by decide) ?_
        refine g_aload_n hX dX7_cell_91 rfl ?_
        refine g_iload_n hX dX7_cell_92 rfl ?_
        refine g_iload_n hX dX7_cell_93 rfl ?_
        refine g_iconst hX dX7_cell_94 kn_i_1 ?_
        refine g_sipush hX dX7_cell_95 kn_s_200 ?_
        refine g_iconst hX dX7_cell_98 kn_i_0 ?_
        refine g_callRi hX dX7_cell_99 cw_X7_98 (ct_X7_window_0  (by first | with_reducible assumption | rfl) (by first | with_reducible assumption | rfl)) 0 8 [0, 1, 2] rfl rfl rfl rfl (by decide) rfl ⟨by decide, by decide⟩ (Nat.le_of_ble_eq_true rfl) (Nat.le_refl _) (Nat.le_refl _) ?_
        subst hQ
        exact g_zretU hX dX7_cell_102 (vp_nar_int _) (winC w (layQ w q) (nI i1) (nI j1) (nI 1) (nI 200) 64, layQ w q, layC w cl) (⟨rfl, (winC_q (cq_q w q) _ _ _ _ 64 (Nat.le_refl _)).trans (cellV_n hi1 hj1 (k := 1) (by decide)).symm⟩) rfl (Nat.le_refl _) (Nat.le_refl _)
      by_cases hs44_2 : what = nI 2
      · subst hs44_2
        refine g_tswj (tgt := 103) hX dX7_cell_44 2 rfl (by decide) rfl (by decide) ?_
        refine g_aload_n hX dX7_cell_103 rfl ?_
        refine g_iload_n hX dX7_cell_104 rfl ?_
        refine g_iload_n hX dX7_cell_105 rfl ?_
        refine g_callRi hX dX7_cell_106 cw_X7_111 (ct_X7_keptIn  (by first | with_reducible assumption | rfl) (by first | with_reducible assumption | rfl)) 0 8 [0, 1, 2] rfl rfl rfl rfl (by decide) rfl ⟨by decide, by decide⟩ (Nat.le_of_ble_eq_true rfl) (Nat.le_refl _) (Nat.le_refl _) ?_
        subst hQ
        exact g_zretU hX dX7_cell_109 (vp_nar_int _) (keptOf w (layQ w q) (nI i1) (nI j1), layQ w q, layC w cl) (⟨rfl, (keptOf_q (cq_q w q) _ _).trans (cellV_n hi1 hj1 (k := 2) (by decide)).symm⟩) rfl (Nat.le_refl _) (Nat.le_refl _)
      by_cases hs44_3 : what = nI 3
      · subst hs44_3
        refine g_tswj (tgt := 110) hX dX7_cell_44 3 rfl (by decide) rfl (by decide) ?_
        refine g_aload_n hX dX7_cell_110 rfl ?_
        refine g_iload_n hX dX7_cell_111 rfl ?_
        refine g_iload_n hX dX7_cell_112 rfl ?_
        refine g_callRi hX dX7_cell_113 cw_X7_126 (ct_X7_cellGap  (by first | with_reducible assumption | rfl) (by first | with_reducible assumption | rfl) (by rw [belowOf_q (cq_q w q)]; exact cell_ne hi1 hj1)) 0 8 [0, 1, 2] rfl rfl rfl rfl (by decide) rfl ⟨by decide, by decide⟩ (Nat.le_of_ble_eq_true rfl) (Nat.le_refl _) (Nat.le_refl _) ?_
        subst hQ
        exact g_zretU hX dX7_cell_116 (vp_nar_int _) (cellGap w (layQ w q) (nI i1) (nI j1), layQ w q, layC w cl) (⟨rfl, (cellGap_q (cq_q w q) _ _).trans (cellV_n hi1 hj1 (k := 3) (by decide)).symm⟩) rfl (Nat.le_refl _) (Nat.le_refl _)
      by_cases hs44_4 : what = nI 4
      · subst hs44_4
        refine g_tswj (tgt := 117) hX dX7_cell_44 4 rfl (by decide) rfl (by decide) ?_
        refine g_aload_n hX dX7_cell_117 rfl ?_
        refine g_iload_n hX dX7_cell_118 rfl ?_
        refine g_iload_n hX dX7_cell_119 rfl ?_
        refine g_callRi hX dX7_cell_120 cw_X7_117 (ct_X7_above  (by first | with_reducible assumption | rfl) (by first | with_reducible assumption | rfl)) 0 8 [0, 1, 2] rfl rfl rfl rfl (by decide) rfl ⟨by decide, by decide⟩ (Nat.le_of_ble_eq_true rfl) (Nat.le_refl _) (Nat.le_refl _) ?_
        refine g_top (v' := nI (abo w (layQ w q) (nI i1) (nI j1))) (hab.1) ?_
        refine g_aload_n hX dX7_cell_123 rfl ?_
        refine g_iload_n hX dX7_cell_124 rfl ?_
        refine g_iload_n hX dX7_cell_125 rfl ?_
        refine g_callRi hX dX7_cell_126 cw_X7_117 (ct_X7_above  (by first | with_reducible assumption | rfl) (by first | with_reducible assumption | rfl)) 0 8 [0, 1, 2] rfl rfl rfl rfl (by decide) rfl ⟨by decide, by decide⟩ (Nat.le_of_ble_eq_true rfl) (Nat.le_refl _) (Nat.le_refl _) ?_
        refine g_top (v' := nI (abo w (layQ w q) (nI i1) (nI j1))) (hab.1) ?_
        refine g_aload_n hX dX7_cell_129 rfl ?_
        refine g_iload_n hX dX7_cell_130 rfl ?_
        refine g_iload_n hX dX7_cell_131 rfl ?_
        refine g_callRi hX dX7_cell_132 cw_X7_120 (ct_X7_below  (by first | with_reducible assumption | rfl) (by first | with_reducible assumption | rfl)) 0 8 [0, 1, 2] rfl rfl rfl rfl (by decide) rfl ⟨by decide, by decide⟩ (Nat.le_of_ble_eq_true rfl) (Nat.le_refl _) (Nat.le_refl _) ?_
        refine g_top (v' := nI (bel w (layQ w q) (nI i1) (nI j1))) (hbe.1) ?_
        refine g_callSRi hX dX7_cell_135 cw_X7_263 (ct_X7_divisor  (by omega) (by omega)) [] rfl rfl (by decide) rfl ⟨by decide, by decide⟩ (Nat.le_of_ble_eq_true rfl) (Nat.le_refl _) (Nat.le_refl _) ?_
        refine g_idivN hX dX7_cell_138 (by omega) (by omega) (by omega) ?_
        subst hQ
        exact g_zretU hX dX7_cell_139 (vp_nar_int _) ((nI ((abo w (layQ w q) (nI i1) (nI j1)) / (Nat.gcd (abo w (layQ w q) (nI i1) (nI j1)) (bel w (layQ w q) (nI i1) (nI j1))))), layQ w q, layC w cl) (⟨rfl, by rw [abo_q (cq_q w q), bel_q (cq_q w q)]; exact (cellV_n hi1 hj1 (k := 4) (by decide)).symm⟩) rfl (Nat.le_refl _) (Nat.le_refl _)
      by_cases hs44_5 : what = nI 5
      · subst hs44_5
        refine g_tswj (tgt := 140) hX dX7_cell_44 5 rfl (by decide) rfl (by decide) ?_
        refine g_aload_n hX dX7_cell_140 rfl ?_
        refine g_iload_n hX dX7_cell_141 rfl ?_
        refine g_iload_n hX dX7_cell_142 rfl ?_
        refine g_callRi hX dX7_cell_143 cw_X7_120 (ct_X7_below  (by first | with_reducible assumption | rfl) (by first | with_reducible assumption | rfl)) 0 8 [0, 1, 2] rfl rfl rfl rfl (by decide) rfl ⟨by decide, by decide⟩ (Nat.le_of_ble_eq_true rfl) (Nat.le_refl _) (Nat.le_refl _) ?_
        refine g_top (v' := nI (bel w (layQ w q) (nI i1) (nI j1))) (hbe.1) ?_
        refine g_aload_n hX dX7_cell_146 rfl ?_
        refine g_iload_n hX dX7_cell_147 rfl ?_
        refine g_iload_n hX dX7_cell_148 rfl ?_
        refine g_callRi hX dX7_cell_149 cw_X7_117 (ct_X7_above  (by first | with_reducible assumption | rfl) (by first | with_reducible assumption | rfl)) 0 8 [0, 1, 2] rfl rfl rfl rfl (by decide) rfl ⟨by decide, by decide⟩ (Nat.le_of_ble_eq_true rfl) (Nat.le_refl _) (Nat.le_refl _) ?_
        refine g_top (v' := nI (abo w (layQ w q) (nI i1) (nI j1))) (hab.1) ?_
        refine g_aload_n hX dX7_cell_152 rfl ?_
        refine g_iload_n hX dX7_cell_153 rfl ?_
        refine g_iload_n hX dX7_cell_154 rfl ?_
        refine g_callRi hX dX7_cell_155 cw_X7_120 (ct_X7_below  (by first | with_reducible assumption | rfl) (by first | with_reducible assumption | rfl)) 0 8 [0, 1, 2] rfl rfl rfl rfl (by decide) rfl ⟨by decide, by decide⟩ (Nat.le_of_ble_eq_true rfl) (Nat.le_refl _) (Nat.le_refl _) ?_
        refine g_top (v' := nI (bel w (layQ w q) (nI i1) (nI j1))) (hbe.1) ?_
        refine g_callSRi hX dX7_cell_158 cw_X7_263 (ct_X7_divisor  (by omega) (by omega)) [] rfl rfl (by decide) rfl ⟨by decide, by decide⟩ (Nat.le_of_ble_eq_true rfl) (Nat.le_refl _) (Nat.le_refl _) ?_
        refine g_idivN hX dX7_cell_161 (by omega) (by omega) (by omega) ?_
        subst hQ
        exact g_zretU hX dX7_cell_162 (vp_nar_int _) ((nI ((bel w (layQ w q) (nI i1) (nI j1)) / (Nat.gcd (abo w (layQ w q) (nI i1) (nI j1)) (bel w (layQ w q) (nI i1) (nI j1))))), layQ w q, layC w cl) (⟨rfl, by rw [abo_q (cq_q w q), bel_q (cq_q w q)]; exact (cellV_n hi1 hj1 (k := 5) (by decide)).symm⟩) rfl (Nat.le_refl _) (Nat.le_refl _)
      have hsw44 : what.toInt < 0 ∨ 5 < what.toInt := sw_out (lo := 0) (n := 6) (by decide) (fun j hj => match j, hj with | 0, _ => hs44_0 | 1, _ => hs44_1 | 2, _ => hs44_2 | 3, _ => hs44_3 | 4, _ => hs44_4 | 5, _ => hs44_5 | j + 6, hj => absurd hj (by omega))
      refine g_tswo (tgt := 163) hX dX7_cell_44 hsw44 (by decide) ?_
      refine g_ldc hX dX7_cell_163 kc_X7_210 ?_
      subst hQ
      exact g_zretU hX dX7_cell_165 (vp_nar_int _) ((-1000000002), layQ w q, layC w cl) (⟨rfl, (cellV_o hi1 hj1 hsw44).symm⟩) rfl (Nat.le_refl _) (Nat.le_refl _)
    · skip
      refine g_ldc hX dX7_cell_40 kc_X7_239 ?_
      subst hQ
      exact g_zretU hX dX7_cell_42 (vp_nar_int _) ((-1000000001), layQ w q, layC w cl) (⟨rfl, (cellV_no (fun z => by rw [(inM (by omega)).mpr z.2] at h37; cases h37)).symm⟩) rfl (Nat.le_refl _) (Nat.le_refl _)
