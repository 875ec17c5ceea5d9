set_option maxRecDepth 100000 in
set_option maxHeartbeats 4000000 in
theorem ct_X5_apart {l : Launch} {D : va_G} {s0 s1 s2 s3 s4 : Nat} {r : Nat → Int32} {kk vn : Int32} {c d side : Nat} (hD : okD r) (hc : c < 8) (hd : d < 8) (hs : side < 2) : Cf l D yX5_apart cX5_apart 9 (some .int) 1 40 [.ref s0, .int (nI c), .int (nI d), .int (nI side)] [(s0, .inr (6, [.int kk, .ref s1, .ref s2, .ref s3, .ref s4, .int vn])), (s1, .inl (D.1 100, 16, .inl (sE r))), (s3, .inl (D.1 100, 5, .inl (sT r)))] (some (.int (farOf r c d side))) [(s0, .inr (6, [.int kk, .ref s1, .ref s2, .ref s3, .ref s4, .int vn])), (s1, .inl (D.1 100, 16, .inl (sE r))), (s3, .inl (D.1 100, 5, .inl (sT r)))] := by
  refine Ct.ofG (by decide) (Nat.le_of_ble_eq_true rfl) ?_
  intro X hX
  have hX : CX X l D RX5 "apart" cX5_apart 9 (some .int) 1 40 0 0 := hX
  show G X (QF X (some (.int (farOf r c d side))) [(s0, .inr (6, [.int kk, .ref s1, .ref s2, .ref s3, .ref s4, .int vn])), (s1, .inl (D.1 100, 16, .inl (sE r))), (s3, .inl (D.1 100, 5, .inl (sT r)))]) [(s0, .inr (6, [.int kk, .ref s1, .ref s2, .ref s3, .ref s4, .int vn])), (s1, .inl (D.1 100, 16, .inl (sE r))), (s3, .inl (D.1 100, 5, .inl (sT r)))] 0 0 0 [some (.ref s0), some (.int (nI c)), some (.int (nI d)), some (.int (nI side)), none, none, none, none, none] []
  generalize hQ : QF X (some (.int (farOf r c d side))) [(s0, .inr (6, [.int kk, .ref s1, .ref s2, .ref s3, .ref s4, .int vn])), (s1, .inl (D.1 100, 16, .inl (sE r))), (s3, .inl (D.1 100, 5, .inl (sT r)))] = Q
  refine g_iconst hX dX5_apart_0 kn_i_0 ?_
  refine g_istore (L' := [some (.ref s0), some (.int (nI c)), some (.int (nI d)), some (.int (nI side)), some (.int (nI 0)), none, none, none, none]) hX dX5_apart_1 (by decide) rfl ?_
  refine g_iconst hX dX5_apart_3 kn_i_0 ?_
  refine g_istore (L' := [some (.ref s0), some (.int (nI c)), some (.int (nI d)), some (.int (nI side)), some (.int (nI 0)), some (.int (nI 0)), none, none, none]) hX dX5_apart_4 (by decide) rfl ?_
  refine g_iconst hX dX5_apart_6 kn_i_0 ?_
  refine g_istore (L' := [some (.ref s0), some (.int (nI c)), some (.int (nI d)), some (.int (nI side)), some (.int (nI 0)), some (.int (nI 0)), some (.int (nI 0)), none, none]) hX dX5_apart_7 (by decide) rfl ?_
  refine g_iconst hX dX5_apart_9 kn_i_0 ?_
  refine g_istore (L' := [some (.ref s0), some (.int (nI c)), some (.int (nI d)), some (.int (nI side)), some (.int (nI 0)), some (.int (nI 0)), some (.int (nI 0)), some (.int (nI 0)), none]) hX dX5_apart_10 (by decide) rfl ?_
  have loop12 : ∀ h : Nat, h ≤ 5 → G X Q [(s0, .inr (6, [.int kk, .ref s1, .ref s2, .ref s3, .ref s4, .int vn])), (s1, .inl (D.1 100, 16, .inl (sE r))), (s3, .inl (D.1 100, 5, .inl (sT r)))] 0 0 12 [some (.ref s0), some (.int (nI c)), some (.int (nI d)), some (.int (nI side)), some (.int (fSum r c d side h)), some (.int (fMost r c d side h)), some (.int (fSq r c d side h)), some (.int (nI h)), none] [] := by
    refine loopN 5 (fun h hh12 ih12 => ?_)
    refine g_iload hX dX5_apart_12 rfl ?_
    refine g_iconst hX dX5_apart_14 kn_i_5 ?_
    refine g_icmpN_ge (tgt := 72) hX dX5_apart_15 (by decide) (by omega) (by omega) (fun h15 => ?_) (fun h15 => ?_)
    · skip
      obtain rfl : h = 5 := by omega
      refine g_aload_n hX dX5_apart_72 rfl ?_
      refine g_getf hX dX5_apart_73 fk_X5_22 0 rfl rfl ?_
      refine g_iconst hX dX5_apart_76 kn_i_4 ?_
      refine g_iald hX dX5_apart_77 2 rfl (by decide) (by omega) ?_
      refine g_top (v' := (r 5)) (sT_at (by decide)) ?_
      by_cases hs78_0 : (r 5) = nI 0
      · skip
        refine g_lsw (tgt := 104) hX dX5_apart_78 (by decide) (off := 26) (by rw [hs78_0]; rfl) (by decide) ?_
        refine g_iload hX dX5_apart_104 rfl ?_
        subst hQ
        exact g_iret hX dX5_apart_106 (iR (if_pos hs78_0)) (rfl) rfl rfl
      by_cases hs78_1 : (r 5) = nI 1
      · skip
        refine g_lsw (tgt := 107) hX dX5_apart_78 (by decide) (off := 29) (by rw [hs78_1]; rfl) (by decide) ?_
        refine g_iload hX dX5_apart_107 rfl ?_
        subst hQ
        exact g_iret hX dX5_apart_109 (iR ((if_neg hs78_0).trans (if_pos hs78_1))) (rfl) rfl rfl
      refine g_lsw (tgt := 110) hX dX5_apart_78 (by decide) (off := 32) ((lv_osw hs78_0 rfl).trans ((lv_osw hs78_1 rfl).trans rfl)) (by decide) ?_
      refine g_iload hX dX5_apart_110 rfl ?_
      subst hQ
      exact g_iret hX dX5_apart_112 (iR ((if_neg hs78_0).trans (if_neg hs78_1))) (rfl) rfl rfl
    · skip
      refine g_aload_n hX dX5_apart_18 rfl ?_
      refine g_iload_n hX dX5_apart_19 rfl ?_
      refine g_iload_n hX dX5_apart_20 rfl ?_
      refine g_iload hX dX5_apart_21 rfl ?_
      refine g_callRi hX dX5_apart_23 cw_X5_50 (ct_X5_figure  (by first | with_reducible assumption | assumption) (by omega) (by omega) (by omega)) 0 6 [0, 1] rfl rfl rfl rfl (by decide) rfl ⟨by decide, by decide⟩ (Nat.le_of_ble_eq_true rfl) (Nat.le_refl _) (Nat.le_refl _) ?_
      refine g_aload_n hX dX5_apart_26 rfl ?_
      refine g_iload_n hX dX5_apart_27 rfl ?_
      refine g_iload_n hX dX5_apart_28 rfl ?_
      refine g_iload hX dX5_apart_29 rfl ?_
      refine g_callRi hX dX5_apart_31 cw_X5_50 (ct_X5_figure  (by first | with_reducible assumption | assumption) (by omega) (by omega) (by omega)) 0 6 [0, 1] rfl rfl rfl rfl (by decide) rfl ⟨by decide, by decide⟩ (Nat.le_of_ble_eq_true rfl) (Nat.le_refl _) (Nat.le_refl _) ?_
      refine g_isub hX dX5_apart_34 ?_
      refine g_mabs hX dX5_apart_35 ml_X5_54 tw_ms_abs tw_ini_J9 tw_mc_abs (by decide) (Nat.le_of_ble_eq_true rfl) (Nat.le_refl _) (Nat.le_refl _) ?_
      refine g_top (v' := (fOff r c d side h)) (abs_off) ?_
      refine g_istore (L' := [some (.ref s0), some (.int (nI c)), some (.int (nI d)), some (.int (nI side)), some (.int (fSum r c d side h)), some (.int (fMost r c d side h)), some (.int (fSq r c d side h)), some (.int (nI h)), some (.int (fOff r c d side h))]) hX dX5_apart_38 (by decide) rfl ?_
      refine g_iload hX dX5_apart_40 rfl ?_
      refine g_iload hX dX5_apart_42 rfl ?_
      refine g_iadd hX dX5_apart_44 ?_
      refine g_istore (L' := [some (.ref s0), some (.int (nI c)), some (.int (nI d)), some (.int (nI side)), some (.int ((fSum r c d side h) + (fOff r c d side h))), some (.int (fMost r c d side h)), some (.int (fSq r c d side h)), some (.int (nI h)), some (.int (fOff r c d side h))]) hX dX5_apart_45 (by decide) rfl ?_
      refine g_iload hX dX5_apart_47 rfl ?_
      refine g_iload hX dX5_apart_49 rfl ?_
      refine g_mmax hX dX5_apart_51 ml_X5_59 tw_ms_max tw_ini_J9 tw_mc_max (by decide) (Nat.le_of_ble_eq_true rfl) (Nat.le_refl _) (Nat.le_refl _) ?_
      refine g_top (v' := (fMost r c d side (h + 1))) (fMost_max) ?_
      refine g_istore (L' := [some (.ref s0), some (.int (nI c)), some (.int (nI d)), some (.int (nI side)), some (.int ((fSum r c d side h) + (fOff r c d side h))), some (.int (fMost r c d side (h + 1))), some (.int (fSq r c d side h)), some (.int (nI h)), some (.int (fOff r c d side h))]) hX dX5_apart_54 (by decide) rfl ?_
      refine g_iload hX dX5_apart_56 rfl ?_
      refine g_iload hX dX5_apart_58 rfl ?_
      refine g_iload hX dX5_apart_60 rfl ?_
      refine g_imul hX dX5_apart_62 ?_
      refine g_iadd hX dX5_apart_63 ?_
      refine g_istore (L' := [some (.ref s0), some (.int (nI c)), some (.int (nI d)), some (.int (nI side)), some (.int ((fSum r c d side h) + (fOff r c d side h))), some (.int (fMost r c d side (h + 1))), some (.int ((fSq r c d side h) + ((fOff r c d side h) * (fOff r c d side h)))), some (.int (nI h)), some (.int (fOff r c d side h))]) hX dX5_apart_64 (by decide) rfl ?_
      refine g_iincN (L' := [some (.ref s0), some (.int (nI c)), some (.int (nI d)), some (.int (nI side)), some (.int ((fSum r c d side h) + (fOff r c d side h))), some (.int (fMost r c d side (h + 1))), some (.int ((fSq r c d side h) + ((fOff r c d side h) * (fOff r c d side h)))), some (.int (nI (h + 1))), some (.int (fOff r c d side h))]) hX dX5_apart_66 rfl (by decide) rfl ?_
      refine g_goto (tgt := 12) hX dX5_apart_69 (by decide) ?_
      exact g_fin (ih12 (by omega) ) (rfl) rfl ⟨rfl, rfl, rfl, rfl, rfl, rfl, rfl, rfl, trivial⟩
  exact g_fin (loop12 0 (by omega) ) (rfl) rfl ⟨rfl, rfl, rfl, rfl, rfl, rfl, rfl, rfl, trivial⟩
set_option maxRecDepth 100000 in
set_option maxHeartbeats 4000000 in
theorem ct_X5_white {l : Launch} {D : va_G} {s0 s1 s2 s3 s4 : Nat} {r : Nat → Int32} {kk vn : Int32} {c d : Nat} {g : Int32} (hD : okD r) (hcap : 0 ≤ r 3) (hc : c < 8) (hd : d < 8) : Cf l D yX5_white cX5_white 7 (some .int) 1 40 [.ref s0, .int (nI c), .int (nI d), .int g] [(s0, .inr (6, [.int kk, .ref s1, .ref s2, .ref s3, .ref s4, .int vn])), (s1, .inl (D.1 100, 16, .inl (sE r))), (s3, .inl (D.1 100, 5, .inl (sT r)))] (some (.int (white r c d g))) [(s0, .inr (6, [.int kk, .ref s1, .ref s2, .ref s3, .ref s4, .int vn])), (s1, .inl (D.1 100, 16, .inl (sE r))), (s3, .inl (D.1 100, 5, .inl (sT r)))] := by
  refine Ct.ofG (by decide) (Nat.le_of_ble_eq_true rfl) ?_
  intro X hX
  have hX : CX X l D RX5 "white" cX5_white 7 (some .int) 1 40 0 0 := hX
  show G X (QF X (some (.int (white r c d g))) [(s0, .inr (6, [.int kk, .ref s1, .ref s2, .ref s3, .ref s4, .int vn])), (s1, .inl (D.1 100, 16, .inl (sE r))), (s3, .inl (D.1 100, 5, .inl (sT r)))]) [(s0, .inr (6, [.int kk, .ref s1, .ref s2, .ref s3, .ref s4, .int vn])), (s1, .inl (D.1 100, 16, .inl (sE r))), (s3, .inl (D.1 100, 5, .inl (sT r)))] 0 0 0 [some (.ref s0), some (.int (nI c)), some (.int (nI d)), some (.int g), none, none, none] []
  generalize hQ : QF X (some (.int (white r c d g))) [(s0, .inr (6, [.int kk, .ref s1, .ref s2, .ref s3, .ref s4, .int vn])), (s1, .inl (D.1 100, 16, .inl (sE r))), (s3, .inl (D.1 100, 5, .inl (sT r)))] = Q
  refine g_iconst hX dX5_white_0 kn_i_0 ?_
  refine g_istore (L' := [some (.ref s0), some (.int (nI c)), some (.int (nI d)), some (.int g), some (.int (nI 0)), none, none]) hX dX5_white_1 (by decide) rfl ?_
  refine g_iconst hX dX5_white_3 kn_i_0 ?_
  refine g_istore (L' := [some (.ref s0), some (.int (nI c)), some (.int (nI d)), some (.int g), some (.int (nI 0)), some (.int (nI 0)), none]) hX dX5_white_4 (by decide) rfl ?_
  have loop6 : ∀ h : Nat, h ≤ 5 → G X Q [(s0, .inr (6, [.int kk, .ref s1, .ref s2, .ref s3, .ref s4, .int vn])), (s1, .inl (D.1 100, 16, .inl (sE r))), (s3, .inl (D.1 100, 5, .inl (sT r)))] 0 0 6 [some (.ref s0), some (.int (nI c)), some (.int (nI d)), some (.int g), some (.int (whTo r c d g h)), some (.int (nI h)), none] [] := by
    refine loopN 5 (fun h hh6 ih6 => ?_)
    refine g_iload hX dX5_white_6 rfl ?_
    refine g_iconst hX dX5_white_8 kn_i_5 ?_
    refine g_icmpN_ge (tgt := 59) hX dX5_white_9 (by decide) (by omega) (by omega) (fun h9 => ?_) (fun h9 => ?_)
    · skip
      obtain rfl : h = 5 := by omega
      refine g_iload hX dX5_white_59 rfl ?_
      subst hQ
      exact g_iret hX dX5_white_61 (rfl) (rfl) rfl rfl
    · skip
      refine g_aload_n hX dX5_white_12 rfl ?_
      refine g_iload_n hX dX5_white_13 rfl ?_
      refine g_iconst hX dX5_white_14 kn_i_1 ?_
      refine g_iload hX dX5_white_15 rfl ?_
      refine g_callRi hX dX5_white_17 cw_X5_50 (ct_X5_figure  (by first | with_reducible assumption | assumption) (by omega) (by omega) (by omega)) 0 6 [0, 1] rfl rfl rfl rfl (by decide) rfl ⟨by decide, by decide⟩ (Nat.le_of_ble_eq_true rfl) (Nat.le_refl _) (Nat.le_refl _) ?_
      refine g_aload_n hX dX5_white_20 rfl ?_
      refine g_iload_n hX dX5_white_21 rfl ?_
      refine g_iconst hX dX5_white_22 kn_i_0 ?_
      refine g_iload hX dX5_white_23 rfl ?_
      refine g_callRi hX dX5_white_25 cw_X5_50 (ct_X5_figure  (by first | with_reducible assumption | assumption) (by omega) (by omega) (by omega)) 0 6 [0, 1] rfl rfl rfl rfl (by decide) rfl ⟨by decide, by decide⟩ (Nat.le_of_ble_eq_true rfl) (Nat.le_refl _) (Nat.le_refl _) ?_
      refine g_iadd hX dX5_white_28 ?_
      refine g_iload_n hX dX5_white_29 rfl ?_
      refine g_iadd hX dX5_white_30 ?_
      refine g_istore (L' := [some (.ref s0), some (.int (nI c)), some (.int (nI d)), some (.int g), some (.int (whTo r c d g h)), some (.int (nI h)), some (.int (((r (6 + 40 * 1 + 5 * c + h)) + (r (6 + 40 * 0 + 5 * d + h))) + g))]) hX dX5_white_31 (by decide) rfl ?_
      refine g_iload hX dX5_white_33 rfl ?_
      refine g_iload hX dX5_white_35 rfl ?_
      refine g_iconst hX dX5_white_37 kn_i_0 ?_
      refine g_mmax hX dX5_white_38 ml_X5_59 tw_ms_max tw_ini_J9 tw_mc_max (by decide) (Nat.le_of_ble_eq_true rfl) (Nat.le_refl _) (Nat.le_refl _) ?_
      refine g_aload_n hX dX5_white_41 rfl ?_
      refine g_getf hX dX5_white_42 fk_X5_22 0 rfl rfl ?_
      refine g_iconst hX dX5_white_45 kn_i_2 ?_
      refine g_iald hX dX5_white_46 2 rfl (by decide) (by omega) ?_
      refine g_top (v' := (r 3)) (sT_at (by decide)) ?_
      refine g_mmin hX dX5_white_47 ml_X5_63 tw_ms_min tw_ini_J9 tw_mc_min (by decide) (Nat.le_of_ble_eq_true rfl) (Nat.le_refl _) (Nat.le_refl _) ?_
      refine g_top (v' := (whAt r c d g h)) (wh_mm hcap) ?_
      refine g_iadd hX dX5_white_50 ?_
      refine g_istore (L' := [some (.ref s0), some (.int (nI c)), some (.int (nI d)), some (.int g), some (.int ((whTo r c d g h) + (whAt r c d g h))), some (.int (nI h)), some (.int (((r (6 + 40 * 1 + 5 * c + h)) + (r (6 + 40 * 0 + 5 * d + h))) + g))]) hX dX5_white_51 (by decide) rfl ?_
      refine g_iincN (L' := [some (.ref s0), some (.int (nI c)), some (.int (nI d)), some (.int g), some (.int ((whTo r c d g h) + (whAt r c d g h))), some (.int (nI (h + 1))), some (.int (((r (6 + 40 * 1 + 5 * c + h)) + (r (6 + 40 * 0 + 5 * d + h))) + g))]) hX dX5_white_53 rfl (by decide) rfl ?_
      refine g_goto (tgt := 6) hX dX5_white_56 (by decide) ?_
      exact g_fin (ih6 (by omega) ) (rfl) rfl ⟨rfl, rfl, rfl, rfl, rfl, rfl, trivial⟩
  exact g_fin (loop6 0 (by omega) ) (rfl) rfl ⟨rfl, rfl, rfl, rfl, rfl, rfl, trivial⟩
set_option maxRecDepth 100000 in
set_option maxHeartbeats 4000000 in
theorem ct_X5_sightGap {l : Launch} {D : va_G} {s0 s1 s2 s3 s4 : Nat} {r : Nat → Int32} {kk vn : Int32} {c d : Nat} (hD : okD r) (hcap : 0 ≤ r 3) (hc : c < 8) (hd : d < 8) : Cf l D yX5_sightGap cX5_sightGap 4 (some .int) 2 66 [.ref s0, .int (nI c), .int (nI d)] [(s0, .inr (6, [.int kk, .ref s1, .ref s2, .ref s3, .ref s4, .int vn])), (s1, .inl (D.1 100, 16, .inl (sE r))), (s3, .inl (D.1 100, 5, .inl (sT r)))] (some (.int (sight r c d))) [(s0, .inr (6, [.int kk, .ref s1, .ref s2, .ref s3, .ref s4, .int vn])), (s1, .inl (D.1 100, 16, .inl (sE r))), (s3, .inl (D.1 100, 5, .inl (sT r)))] := by
  refine Ct.ofG (by decide) (Nat.le_of_ble_eq_true rfl) ?_
  intro X hX
  have hX : CX X l D RX5 "sightGap" cX5_sightGap 4 (some .int) 2 66 0 0 := hX
  show G X (QF X (some (.int (sight r c d))) [(s0, .inr (6, [.int kk, .ref s1, .ref s2, .ref s3, .ref s4, .int vn])), (s1, .inl (D.1 100, 16, .inl (sE r))), (s3, .inl (D.1 100, 5, .inl (sT r)))]) [(s0, .inr (6, [.int kk, .ref s1, .ref s2, .ref s3, .ref s4, .int vn])), (s1, .inl (D.1 100, 16, .inl (sE r))), (s3, .inl (D.1 100, 5, .inl (sT r)))] 0 0 0 [some (.ref s0), some (.int (nI c)), some (.int (nI d)), none] []
  generalize hQ : QF X (some (.int (sight r c d))) [(s0, .inr (6, [.int kk, .ref s1, .ref s2, .ref s3, .ref s4, .int vn])), (s1, .inl (D.1 100, 16, .inl (sE r))), (s3, .inl (D.1 100, 5, .inl (sT r)))] = Q
  refine g_bipush hX dX5_sightGap_0 kn_b_m20 ?_
  refine g_istore_n (L' := [some (.ref s0), some (.int (nI c)), some (.int (nI d)), some (.int (-20))]) hX dX5_sightGap_2 (by decide) rfl ?_
  have loop3 : ∀ t : Nat, t ≤ 40 → (sight r c d = siAt r c d (40 - t) t) → G X Q [(s0, .inr (6, [.int kk, .ref s1, .ref s2, .ref s3, .ref s4, .int vn])), (s1, .inl (D.1 100, 16, .inl (sE r))), (s3, .inl (D.1 100, 5, .inl (sT r)))] 0 0 3 [some (.ref s0), some (.int (nI c)), some (.int (nI d)), some (.int (gv t))] [] := by
    refine loopN 40 (fun t hh3 ih3 => ?_)
    intro hr
    have hg := gv_ge t hh3
    refine g_iload_n hX dX5_sightGap_3 rfl ?_
    refine g_bipush hX dX5_sightGap_4 kn_b_20 ?_
    refine g_icmp_ge (tgt := 33) hX dX5_sightGap_6 (by decide) (fun h6 => ?_) (fun h6 => ?_)
    · skip
      refine g_bipush hX dX5_sightGap_33 kn_b_20 ?_
      subst hQ
      exact g_iret hX dX5_sightGap_35 (iR (by rw [hr, show t = 40 by have := hg.mp h6; omega]; rfl)) (rfl) rfl rfl
    · skip
      have ht : t < 40 := by
        rcases Nat.lt_or_ge t 40 with q | q
        · exact q
        · exact absurd (hg.mpr q) h6
      refine g_aload_n hX dX5_sightGap_9 rfl ?_
      refine g_iload_n hX dX5_sightGap_10 rfl ?_
      refine g_iload_n hX dX5_sightGap_11 rfl ?_
      refine g_iload_n hX dX5_sightGap_12 rfl ?_
      refine g_callRi hX dX5_sightGap_13 cw_X5_66 (ct_X5_white  (by first | with_reducible assumption | assumption) (by omega) (by omega) (by omega)) 0 6 [0, 1, 2] rfl rfl rfl rfl (by decide) rfl ⟨by decide, by decide⟩ (Nat.le_of_ble_eq_true rfl) (Nat.le_refl _) (Nat.le_refl _) ?_
      refine g_aload_n hX dX5_sightGap_16 rfl ?_
      refine g_getf hX dX5_sightGap_17 fk_X5_22 0 rfl rfl ?_
      refine g_iconst hX dX5_sightGap_20 kn_i_3 ?_
      refine g_iald hX dX5_sightGap_21 2 rfl (by decide) (by omega) ?_
      refine g_top (v' := (r 4)) (sT_at (by decide)) ?_
      refine g_icmp_lt (tgt := 27) hX dX5_sightGap_22 (by decide) (fun h22 => ?_) (fun h22 => ?_)
      · skip
        refine g_iinc (L' := [some (.ref s0), some (.int (nI c)), some (.int (nI d)), some (.int ((gv t) + 1))]) hX dX5_sightGap_27 rfl (by rfl) (by decide) rfl ?_
        refine g_goto (tgt := 3) hX dX5_sightGap_30 (by decide) ?_
        exact g_fin (ih3 (by omega) (by rw [hr, show 40 - t = (40 - (t + 1)) + 1 by omega]; exact if_neg (Int32.not_le.mpr h22))) (rfl) rfl ⟨rfl, rfl, rfl, rfl, trivial⟩
      · skip
        refine g_iload_n hX dX5_sightGap_25 rfl ?_
        subst hQ
        exact g_iret hX dX5_sightGap_26 (iR (by rw [hr, show 40 - t = (40 - (t + 1)) + 1 by omega]; exact if_pos (Int32.not_lt.mp h22))) (rfl) rfl rfl
  exact g_fin (loop3 0 (by omega) rfl) (rfl) rfl ⟨rfl, rfl, rfl, rfl, trivial⟩
