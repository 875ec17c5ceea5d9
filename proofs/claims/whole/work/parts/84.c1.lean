set_option maxRecDepth 100000 in
set_option maxHeartbeats 4000000 in
theorem ct_X5_knows {l : Launch} {D : va_G} {s0 s1 s2 s3 s4 : Nat} {kk vn : Int32} {c : Int32}  : Cf l D yX5_knows cX5_knows 2 (some .boolean) 0 0 [.ref s0, .int c] [(s0, .inr (6, [.int kk, .ref s1, .ref s2, .ref s3, .ref s4, .int vn]))] (some (.int (bI (isKn kk c)))) [(s0, .inr (6, [.int kk, .ref s1, .ref s2, .ref s3, .ref s4, .int vn]))] := by
  refine Ct.ofG (by decide) (Nat.le_of_ble_eq_true rfl) ?_
  intro X hX
  have hX : CX X l D RX5 "knows" cX5_knows 2 (some .boolean) 0 0 0 0 := hX
  show G X (QF X (some (.int (bI (isKn kk c)))) [(s0, .inr (6, [.int kk, .ref s1, .ref s2, .ref s3, .ref s4, .int vn]))]) [(s0, .inr (6, [.int kk, .ref s1, .ref s2, .ref s3, .ref s4, .int vn]))] 0 0 0 [some (.ref s0), some (.int c)] []
  generalize hQ : QF X (some (.int (bI (isKn kk c)))) [(s0, .inr (6, [.int kk, .ref s1, .ref s2, .ref s3, .ref s4, .int vn]))] = Q
  refine g_iload_n hX dX5_knows_0 rfl ?_
  refine g_if_lt (tgt := 26) hX dX5_knows_1 (by decide) (fun h1 => ?_) (fun h1 => ?_)
  · skip
    refine g_iconst hX dX5_knows_26 kn_i_0 ?_
    subst hQ
    exact g_zret false hX dX5_knows_27 (by decide) (bR (isKn_lo h1)) (rfl) rfl rfl
  · skip
    refine g_iload_n hX dX5_knows_4 rfl ?_
    refine g_bipush hX dX5_knows_5 kn_b_8 ?_
    refine g_icmp_ge (tgt := 26) hX dX5_knows_7 (by decide) (fun h7 => ?_) (fun h7 => ?_)
    · skip
      refine g_iconst hX dX5_knows_26 kn_i_0 ?_
      subst hQ
      exact g_zret false hX dX5_knows_27 (by decide) (bR (isKn_hi h7)) (rfl) rfl rfl
    · skip
      refine g_aload_n hX dX5_knows_10 rfl ?_
      refine g_getf hX dX5_knows_11 fk_X5_9 0 rfl rfl ?_
      refine g_iload_n hX dX5_knows_14 rfl ?_
      refine g_ishr hX dX5_knows_15 ?_
      refine g_iconst hX dX5_knows_16 kn_i_1 ?_
      refine g_iand hX dX5_knows_17 ?_
      refine g_iconst hX dX5_knows_18 kn_i_1 ?_
      refine g_icmp_ne (tgt := 26) hX dX5_knows_19 (by decide) (fun h19 => ?_) (fun h19 => ?_)
      · skip
        refine g_iconst hX dX5_knows_26 kn_i_0 ?_
        subst hQ
        exact g_zret false hX dX5_knows_27 (by decide) (bR ((isKn_mid h1 h7).trans (decide_eq_false h19))) (rfl) rfl rfl
      · skip
        refine g_iconst hX dX5_knows_22 kn_i_1 ?_
        refine g_goto (tgt := 27) hX dX5_knows_23 (by decide) ?_
        subst hQ
        exact g_zret true hX dX5_knows_27 (by decide) (bR ((isKn_mid h1 h7).trans (decide_eq_true h19))) (rfl) rfl rfl
theorem ct_X5_knows_N {l : Launch} {D : va_G} {s0 s1 s2 s3 s4 : Nat} {kk vn : Int32} {j : Nat} (hj : j < 8) : Cf l D yX5_knows cX5_knows 2 (some .boolean) 0 0 [.ref s0, .int (nI j)] [(s0, .inr (6, [.int kk, .ref s1, .ref s2, .ref s3, .ref s4, .int vn]))] (some (.int (bI (kn kk j)))) [(s0, .inr (6, [.int kk, .ref s1, .ref s2, .ref s3, .ref s4, .int vn]))] := by
  have h := ct_X5_knows (l := l) (D := D) (s0 := s0) (s1 := s1) (s2 := s2) (s3 := s3) (s4 := s4) (kk := kk) (vn := vn) (c := nI j)
  rw [isKn_n hj] at h
  exact h
set_option maxRecDepth 100000 in
set_option maxHeartbeats 4000000 in
theorem ct_X5_knowsBoth {l : Launch} {D : va_G} {s0 s1 s2 s3 s4 : Nat} {kk vn : Int32} {c d : Int32}  : Cf l D yX5_knowsBoth cX5_knowsBoth 3 (some .boolean) 1 21 [.ref s0, .int c, .int d] [(s0, .inr (6, [.int kk, .ref s1, .ref s2, .ref s3, .ref s4, .int vn]))] (some (.int (bI (isKn kk c && isKn kk d)))) [(s0, .inr (6, [.int kk, .ref s1, .ref s2, .ref s3, .ref s4, .int vn]))] := by
  refine Ct.ofG (by decide) (Nat.le_of_ble_eq_true rfl) ?_
  intro X hX
  have hX : CX X l D RX5 "knowsBoth" cX5_knowsBoth 3 (some .boolean) 1 21 0 0 := hX
  show G X (QF X (some (.int (bI (isKn kk c && isKn kk d)))) [(s0, .inr (6, [.int kk, .ref s1, .ref s2, .ref s3, .ref s4, .int vn]))]) [(s0, .inr (6, [.int kk, .ref s1, .ref s2, .ref s3, .ref s4, .int vn]))] 0 0 0 [some (.ref s0), some (.int c), some (.int d)] []
  generalize hQ : QF X (some (.int (bI (isKn kk c && isKn kk d)))) [(s0, .inr (6, [.int kk, .ref s1, .ref s2, .ref s3, .ref s4, .int vn]))] = Q
  refine g_aload_n hX dX5_knowsBoth_0 rfl ?_
  refine g_iload_n hX dX5_knowsBoth_1 rfl ?_
  refine g_callRi hX dX5_knowsBoth_2 cw_X5_37 ct_X5_knows 0 6 [0] rfl rfl rfl rfl (by decide) rfl ⟨by decide, by decide⟩ (Nat.le_of_ble_eq_true rfl) (Nat.le_refl _) (Nat.le_refl _) ?_
  refine g_ifb_eq (tgt := 20) hX dX5_knowsBoth_5 (by decide) (fun h5 => ?_) (fun h5 => ?_)
  · skip
    refine g_iconst hX dX5_knowsBoth_20 kn_i_0 ?_
    subst hQ
    exact g_zret false hX dX5_knowsBoth_21 (by decide) (bR (by rw [h5]; rfl)) (rfl) rfl rfl
  · skip
    refine g_aload_n hX dX5_knowsBoth_8 rfl ?_
    refine g_iload_n hX dX5_knowsBoth_9 rfl ?_
    refine g_callRi hX dX5_knowsBoth_10 cw_X5_37 ct_X5_knows 0 6 [0] rfl rfl rfl rfl (by decide) rfl ⟨by decide, by decide⟩ (Nat.le_of_ble_eq_true rfl) (Nat.le_refl _) (Nat.le_refl _) ?_
    refine g_ifb_eq (tgt := 20) hX dX5_knowsBoth_13 (by decide) (fun h13 => ?_) (fun h13 => ?_)
    · skip
      refine g_iconst hX dX5_knowsBoth_20 kn_i_0 ?_
      subst hQ
      exact g_zret false hX dX5_knowsBoth_21 (by decide) (bR (by rw [h5, h13]; rfl)) (rfl) rfl rfl
    · skip
      refine g_iconst hX dX5_knowsBoth_16 kn_i_1 ?_
      refine g_goto (tgt := 21) hX dX5_knowsBoth_17 (by decide) ?_
      subst hQ
      exact g_zret true hX dX5_knowsBoth_21 (by decide) (bR (by rw [h5, h13]; rfl)) (rfl) rfl rfl
set_option maxRecDepth 100000 in
set_option maxHeartbeats 4000000 in
theorem ct_X5_figure {l : Launch} {D : va_G} {s0 s1 s2 s3 s4 : Nat} {r : Nat → Int32} {kk vn : Int32} {c side h : Nat} (hd : okD r) (hc : c < 8) (hs : side < 2) (hh : h < 5) : Cf l D yX5_figure cX5_figure 4 (some .int) 0 0 [.ref s0, .int (nI c), .int (nI side), .int (nI h)] [(s0, .inr (6, [.int kk, .ref s1, .ref s2, .ref s3, .ref s4, .int vn])), (s1, .inl (D.1 100, 16, .inl (sE r)))] (some (.int (r (6 + 40 * side + 5 * c + h)))) [(s0, .inr (6, [.int kk, .ref s1, .ref s2, .ref s3, .ref s4, .int vn])), (s1, .inl (D.1 100, 16, .inl (sE r)))] := by
  refine Ct.ofG (by decide) (Nat.le_of_ble_eq_true rfl) ?_
  intro X hX
  have hX : CX X l D RX5 "figure" cX5_figure 4 (some .int) 0 0 0 0 := hX
  show G X (QF X (some (.int (r (6 + 40 * side + 5 * c + h)))) [(s0, .inr (6, [.int kk, .ref s1, .ref s2, .ref s3, .ref s4, .int vn])), (s1, .inl (D.1 100, 16, .inl (sE r)))]) [(s0, .inr (6, [.int kk, .ref s1, .ref s2, .ref s3, .ref s4, .int vn])), (s1, .inl (D.1 100, 16, .inl (sE r)))] 0 0 0 [some (.ref s0), some (.int (nI c)), some (.int (nI side)), some (.int (nI h))] []
  generalize hQ : QF X (some (.int (r (6 + 40 * side + 5 * c + h)))) [(s0, .inr (6, [.int kk, .ref s1, .ref s2, .ref s3, .ref s4, .int vn])), (s1, .inl (D.1 100, 16, .inl (sE r)))] = Q
  refine g_aload_n hX dX5_figure_0 rfl ?_
  refine g_getf hX dX5_figure_1 fk_X5_15 0 rfl rfl ?_
  refine g_iload_n hX dX5_figure_4 rfl ?_
  refine g_bipush hX dX5_figure_5 kn_b_8 ?_
  refine g_imulN hX dX5_figure_7 ?_
  refine g_iload_n hX dX5_figure_8 rfl ?_
  refine g_iaddN hX dX5_figure_9 ?_
  refine g_iald hX dX5_figure_10 1 rfl (by decide) (by omega) ?_
  refine g_top (v' := nI (eN r (side * 8 + c))) (sE_at (by omega)) ?_
  have he := eN_le hd (k := side * 8 + c) (by omega)
  have hp := plN_b h
  have hq := Nat.div_le_self (eN r (side * 8 + c)) (plN h)
  refine g_statA hX dX5_figure_11 fs_X5_47 hX.place (fun t11 hT11 => ?_)
  refine g_iload_n hX dX5_figure_14 rfl ?_
  refine g_tald hX dX5_figure_15 hT11 (by decide) (by omega) ?_
  refine g_top (v' := nI (plN h)) (plN_get h hh) ?_
  refine g_idivN hX dX5_figure_16 (by omega) (by omega) (by omega) ?_
  refine g_bipush hX dX5_figure_17 kn_b_10 ?_
  refine g_iremN hX dX5_figure_19 (by omega) (by omega) (by omega) ?_
  subst hQ
  exact g_iret hX dX5_figure_20 (iR (eN_dig hd hc hs hh).symm) (rfl) rfl rfl
set_option maxRecDepth 100000 in
set_option maxHeartbeats 4000000 in
theorem ct_X5_isJudged {l : Launch} {D : va_G} {s0 s1 s2 s3 s4 : Nat} {r : Nat → Int32} {kk vn : Int32} {c d : Nat} (hg : okG r) (hc : c < 8) (hd : d < 8) : Cf l D yX5_isJudged cX5_isJudged 3 (some .boolean) 0 0 [.ref s0, .int (nI c), .int (nI d)] [(s0, .inr (6, [.int kk, .ref s1, .ref s2, .ref s3, .ref s4, .int vn])), (s4, .inl (D.1 100, 64, .inl (sG r)))] (some (.int (bI (!decide (r (94 + 8 * c + d) ≤ 0))))) [(s0, .inr (6, [.int kk, .ref s1, .ref s2, .ref s3, .ref s4, .int vn])), (s4, .inl (D.1 100, 64, .inl (sG r)))] := by
  refine Ct.ofG (by decide) (Nat.le_of_ble_eq_true rfl) ?_
  intro X hX
  have hX : CX X l D RX5 "isJudged" cX5_isJudged 3 (some .boolean) 0 0 0 0 := hX
  show G X (QF X (some (.int (bI (!decide (r (94 + 8 * c + d) ≤ 0))))) [(s0, .inr (6, [.int kk, .ref s1, .ref s2, .ref s3, .ref s4, .int vn])), (s4, .inl (D.1 100, 64, .inl (sG r)))]) [(s0, .inr (6, [.int kk, .ref s1, .ref s2, .ref s3, .ref s4, .int vn])), (s4, .inl (D.1 100, 64, .inl (sG r)))] 0 0 0 [some (.ref s0), some (.int (nI c)), some (.int (nI d))] []
  generalize hQ : QF X (some (.int (bI (!decide (r (94 + 8 * c + d) ≤ 0))))) [(s0, .inr (6, [.int kk, .ref s1, .ref s2, .ref s3, .ref s4, .int vn])), (s4, .inl (D.1 100, 64, .inl (sG r)))] = Q
  refine g_aload_n hX dX5_isJudged_0 rfl ?_
  refine g_getf hX dX5_isJudged_1 fk_X5_25 0 rfl rfl ?_
  refine g_iload_n hX dX5_isJudged_4 rfl ?_
  refine g_bipush hX dX5_isJudged_5 kn_b_8 ?_
  refine g_imulN hX dX5_isJudged_7 ?_
  refine g_iload_n hX dX5_isJudged_8 rfl ?_
  refine g_iaddN hX dX5_isJudged_9 ?_
  refine g_iald hX dX5_isJudged_10 1 rfl (by decide) (by omega) ?_
  refine g_top (v' := (gG (r (94 + 8 * c + d)))) (sG_at hc hd) ?_
  obtain ⟨g, hg1, hg2⟩ := hg (8 * c + d) (by omega)
  rw [← Nat.add_assoc] at hg2
  refine g_sipush hX dX5_isJudged_11 kn_s_1000 ?_
  refine g_icmp_eq (tgt := 21) hX dX5_isJudged_14 (by decide) (fun h14 => ?_) (fun h14 => ?_)
  · skip
    refine g_iconst hX dX5_isJudged_21 kn_i_0 ?_
    subst hQ
    exact g_zret false hX dX5_isJudged_22 (by decide) (bR (by rw [decide_eq_true (show r (94 + 8 * c + d) ≤ 0 by rw [hg2] at h14 ⊢; exact (gG_j hg1).mp h14)]; rfl)) (rfl) rfl rfl
  · skip
    refine g_iconst hX dX5_isJudged_17 kn_i_1 ?_
    refine g_goto (tgt := 22) hX dX5_isJudged_18 (by decide) ?_
    subst hQ
    exact g_zret true hX dX5_isJudged_22 (by decide) (bR (by rw [decide_eq_false (show ¬ r (94 + 8 * c + d) ≤ 0 by rw [hg2] at h14 ⊢; exact fun q => h14 ((gG_j hg1).mpr q))]; rfl)) (rfl) rfl rfl
set_option maxRecDepth 100000 in
set_option maxHeartbeats 4000000 in
theorem ct_X5_judgedGap {l : Launch} {D : va_G} {s0 s1 s2 s3 s4 : Nat} {r : Nat → Int32} {kk vn : Int32} {c d : Nat} (hc : c < 8) (hd : d < 8) : Cf l D yX5_judgedGap cX5_judgedGap 3 (some .int) 0 0 [.ref s0, .int (nI c), .int (nI d)] [(s0, .inr (6, [.int kk, .ref s1, .ref s2, .ref s3, .ref s4, .int vn])), (s4, .inl (D.1 100, 64, .inl (sG r)))] (some (.int (gG (r (94 + 8 * c + d))))) [(s0, .inr (6, [.int kk, .ref s1, .ref s2, .ref s3, .ref s4, .int vn])), (s4, .inl (D.1 100, 64, .inl (sG r)))] := by
  refine Ct.ofG (by decide) (Nat.le_of_ble_eq_true rfl) ?_
  intro X hX
  have hX : CX X l D RX5 "judgedGap" cX5_judgedGap 3 (some .int) 0 0 0 0 := hX
  show G X (QF X (some (.int (gG (r (94 + 8 * c + d))))) [(s0, .inr (6, [.int kk, .ref s1, .ref s2, .ref s3, .ref s4, .int vn])), (s4, .inl (D.1 100, 64, .inl (sG r)))]) [(s0, .inr (6, [.int kk, .ref s1, .ref s2, .ref s3, .ref s4, .int vn])), (s4, .inl (D.1 100, 64, .inl (sG r)))] 0 0 0 [some (.ref s0), some (.int (nI c)), some (.int (nI d))] []
  generalize hQ : QF X (some (.int (gG (r (94 + 8 * c + d))))) [(s0, .inr (6, [.int kk, .ref s1, .ref s2, .ref s3, .ref s4, .int vn])), (s4, .inl (D.1 100, 64, .inl (sG r)))] = Q
  refine g_aload_n hX dX5_judgedGap_0 rfl ?_
  refine g_getf hX dX5_judgedGap_1 fk_X5_25 0 rfl rfl ?_
  refine g_iload_n hX dX5_judgedGap_4 rfl ?_
  refine g_bipush hX dX5_judgedGap_5 kn_b_8 ?_
  refine g_imulN hX dX5_judgedGap_7 ?_
  refine g_iload_n hX dX5_judgedGap_8 rfl ?_
  refine g_iaddN hX dX5_judgedGap_9 ?_
  refine g_iald hX dX5_judgedGap_10 1 rfl (by decide) (by omega) ?_
  subst hQ
  exact g_iret hX dX5_judgedGap_11 (iR (sG_at hc hd).symm) (rfl) rfl rfl
