set_option maxRecDepth 100000 in
set_option maxHeartbeats 4000000 in
theorem ct_X4_inCell {l : Launch} {D : va_G} {v0 v1 s0 l0 l1 l2 l3 g0 g1 g2 g3 : Nat} {r : Nat → Int32} {sv : Int32} {pr jd kp ks kl : Int32} {i j c d : Nat} (hc : c < 8) (hd : d < 8) (hi : i < 2147483648) (hj : j < 2147483648) : Cf l D yX4_inCell cX4_inCell 3 (some .boolean) 0 0 [.ref v0, .int (nI c), .int (nI d)] [(v0, .inr (5, [.ref s0, .ref l0, .ref g0, .int sv, .int (nI i), .int (nI j), .int pr, .int jd, .int kp, .int ks, .int kl, .ref v1])), (l0, .inr (2, [.ref l1, .int (nI (clM r 0)), .ref l2, .ref l3])), (l1, .inl (D.1 100, 8, .inl (clA r 0))), (g0, .inr (2, [.ref g1, .int (nI (clM r 1)), .ref g2, .ref g3])), (g1, .inl (D.1 100, 8, .inl (clA r 1)))] (some (.int (bI (isInB r (cq r) c d (nI i) (nI j))))) [(v0, .inr (5, [.ref s0, .ref l0, .ref g0, .int sv, .int (nI i), .int (nI j), .int pr, .int jd, .int kp, .int ks, .int kl, .ref v1])), (l0, .inr (2, [.ref l1, .int (nI (clM r 0)), .ref l2, .ref l3])), (l1, .inl (D.1 100, 8, .inl (clA r 0))), (g0, .inr (2, [.ref g1, .int (nI (clM r 1)), .ref g2, .ref g3])), (g1, .inl (D.1 100, 8, .inl (clA r 1)))] := by
  refine Ct.ofG (by decide) (Nat.le_of_ble_eq_true rfl) ?_
  intro X hX
  have hX : CX X l D RX4 "inCell" cX4_inCell 3 (some .boolean) 0 0 0 0 := hX
  show G X (QF X (some (.int (bI (isInB r (cq r) c d (nI i) (nI j))))) [(v0, .inr (5, [.ref s0, .ref l0, .ref g0, .int sv, .int (nI i), .int (nI j), .int pr, .int jd, .int kp, .int ks, .int kl, .ref v1])), (l0, .inr (2, [.ref l1, .int (nI (clM r 0)), .ref l2, .ref l3])), (l1, .inl (D.1 100, 8, .inl (clA r 0))), (g0, .inr (2, [.ref g1, .int (nI (clM r 1)), .ref g2, .ref g3])), (g1, .inl (D.1 100, 8, .inl (clA r 1)))]) [(v0, .inr (5, [.ref s0, .ref l0, .ref g0, .int sv, .int (nI i), .int (nI j), .int pr, .int jd, .int kp, .int ks, .int kl, .ref v1])), (l0, .inr (2, [.ref l1, .int (nI (clM r 0)), .ref l2, .ref l3])), (l1, .inl (D.1 100, 8, .inl (clA r 0))), (g0, .inr (2, [.ref g1, .int (nI (clM r 1)), .ref g2, .ref g3])), (g1, .inl (D.1 100, 8, .inl (clA r 1)))] 0 0 0 [some (.ref v0), some (.int (nI c)), some (.int (nI d))] []
  generalize hQ : QF X (some (.int (bI (isInB r (cq r) c d (nI i) (nI j))))) [(v0, .inr (5, [.ref s0, .ref l0, .ref g0, .int sv, .int (nI i), .int (nI j), .int pr, .int jd, .int kp, .int ks, .int kl, .ref v1])), (l0, .inr (2, [.ref l1, .int (nI (clM r 0)), .ref l2, .ref l3])), (l1, .inl (D.1 100, 8, .inl (clA r 0))), (g0, .inr (2, [.ref g1, .int (nI (clM r 1)), .ref g2, .ref g3])), (g1, .inl (D.1 100, 8, .inl (clA r 1)))] = Q
  refine g_aload_n hX dX4_inCell_0 rfl ?_
  refine g_getf hX dX4_inCell_1 fk_X4_18 0 rfl rfl ?_
  refine g_getf hX dX4_inCell_4 fk_X4_77 3 rfl rfl ?_
  refine g_iload_n hX dX4_inCell_7 rfl ?_
  refine g_iald hX dX4_inCell_8 4 rfl (by decide) (by omega) ?_
  refine g_aload_n hX dX4_inCell_9 rfl ?_
  refine g_getf hX dX4_inCell_10 fk_X4_25 0 rfl rfl ?_
  refine g_icmp_ne (tgt := 36) hX dX4_inCell_13 (by decide) (fun h13 => ?_) (fun h13 => ?_)
  · skip
    refine g_iconst hX dX4_inCell_36 kn_i_0 ?_
    subst hQ
    exact g_zret false hX dX4_inCell_37 (by decide) (bR (inCell_1 hc hi h13)) (rfl) rfl rfl
  · skip
    refine g_aload_n hX dX4_inCell_16 rfl ?_
    refine g_getf hX dX4_inCell_17 fk_X4_12 0 rfl rfl ?_
    refine g_getf hX dX4_inCell_20 fk_X4_77 1 rfl rfl ?_
    refine g_iload_n hX dX4_inCell_23 rfl ?_
    refine g_iald hX dX4_inCell_24 2 rfl (by decide) (by omega) ?_
    refine g_aload_n hX dX4_inCell_25 rfl ?_
    refine g_getf hX dX4_inCell_26 fk_X4_28 0 rfl rfl ?_
    refine g_icmp_ne (tgt := 36) hX dX4_inCell_29 (by decide) (fun h29 => ?_) (fun h29 => ?_)
    · skip
      refine g_iconst hX dX4_inCell_36 kn_i_0 ?_
      subst hQ
      exact g_zret false hX dX4_inCell_37 (by decide) (bR (inCell_2 hd hj h29)) (rfl) rfl rfl
    · skip
      refine g_iconst hX dX4_inCell_32 kn_i_1 ?_
      refine g_goto (tgt := 37) hX dX4_inCell_33 (by decide) ?_
      subst hQ
      exact g_zret true hX dX4_inCell_37 (by decide) (bR (inCell_3 hc hd hi hj h13 h29)) (rfl) rfl rfl
set_option maxRecDepth 100000 in
set_option maxHeartbeats 4000000 in
theorem ct_X4_chooseIfMore {l : Launch} {D : va_G} {v0 v1 s0 s1 s2 s3 s4 l0 g0 : Nat} {r : Nat → Int32} {vn sv : Int32} {cr cf pr jd ks kl : Int32} {i j o t kp : Nat} (hg : okG r) (ho : r 2 = nI o) (ho2 : o ≤ 20) (ht : t ≤ 40) (hkp : kp ≤ 64) : Cf l D yX4_chooseIfMore cX4_chooseIfMore 6 none 1 40 [.ref v0, .int (gv t)] [(v0, .inr (5, [.ref s0, .ref l0, .ref g0, .int sv, .int cr, .int cf, .int pr, .int jd, .int (nI kp), .int ks, .int kl, .ref v1])), (s0, .inr (6, [.int (r 0), .ref s1, .ref s2, .ref s3, .ref s4, .int vn])), (s3, .inl (D.1 100, 5, .inl (sT r))), (v1, .inl (D.1 100, 41, .inl (tyA r i j 64)))] none [(v0, .inr (5, [.ref s0, .ref l0, .ref g0, .int sv, .int cr, .int cf, .int pr, .int jd, .int (nI (if wnN r i j o t ≤ kp then kp else wnN r i j o t)), .int (if wnN r i j o t ≤ kp then ks else wsI r i j o t), .int (if wnN r i j o t ≤ kp then kl else gv t), .ref v1])), (s0, .inr (6, [.int (r 0), .ref s1, .ref s2, .ref s3, .ref s4, .int vn])), (s3, .inl (D.1 100, 5, .inl (sT r))), (v1, .inl (D.1 100, 41, .inl (tyA r i j 64)))] := by
  refine Ct.ofG (by decide) (Nat.le_of_ble_eq_true rfl) ?_
  intro X hX
  have hX : CX X l D RX4 "chooseIfMore" cX4_chooseIfMore 6 none 1 40 0 0 := hX
  show G X (QF X none [(v0, .inr (5, [.ref s0, .ref l0, .ref g0, .int sv, .int cr, .int cf, .int pr, .int jd, .int (nI (if wnN r i j o t ≤ kp then kp else wnN r i j o t)), .int (if wnN r i j o t ≤ kp then ks else wsI r i j o t), .int (if wnN r i j o t ≤ kp then kl else gv t), .ref v1])), (s0, .inr (6, [.int (r 0), .ref s1, .ref s2, .ref s3, .ref s4, .int vn])), (s3, .inl (D.1 100, 5, .inl (sT r))), (v1, .inl (D.1 100, 41, .inl (tyA r i j 64)))]) [(v0, .inr (5, [.ref s0, .ref l0, .ref g0, .int sv, .int cr, .int cf, .int pr, .int jd, .int (nI kp), .int ks, .int kl, .ref v1])), (s0, .inr (6, [.int (r 0), .ref s1, .ref s2, .ref s3, .ref s4, .int vn])), (s3, .inl (D.1 100, 5, .inl (sT r))), (v1, .inl (D.1 100, 41, .inl (tyA r i j 64)))] 0 0 0 [some (.ref v0), some (.int (gv t)), none, none, none, none] []
  generalize hQ : QF X none [(v0, .inr (5, [.ref s0, .ref l0, .ref g0, .int sv, .int cr, .int cf, .int pr, .int jd, .int (nI (if wnN r i j o t ≤ kp then kp else wnN r i j o t)), .int (if wnN r i j o t ≤ kp then ks else wsI r i j o t), .int (if wnN r i j o t ≤ kp then kl else gv t), .ref v1])), (s0, .inr (6, [.int (r 0), .ref s1, .ref s2, .ref s3, .ref s4, .int vn])), (s3, .inl (D.1 100, 5, .inl (sT r))), (v1, .inl (D.1 100, 41, .inl (tyA r i j 64)))] = Q
  have hmn := mnN_le (t := t) (o := o) ht
  refine g_bipush hX dX4_chooseIfMore_0 kn_b_20 ?_
  refine g_iload_n hX dX4_chooseIfMore_2 rfl ?_
  refine g_iconst hX dX4_chooseIfMore_3 kn_i_2 ?_
  refine g_aload_n hX dX4_chooseIfMore_4 rfl ?_
  refine g_getf hX dX4_chooseIfMore_5 fk_X4_50 0 rfl rfl ?_
  refine g_getf hX dX4_chooseIfMore_8 fk_X4_84 1 rfl rfl ?_
  refine g_iconst hX dX4_chooseIfMore_11 kn_i_1 ?_
  refine g_iald hX dX4_chooseIfMore_12 2 rfl (by decide) (by omega) ?_
  refine g_top (v' := nI o) ((sT_at (by decide)).trans ho) ?_
  refine g_imulN hX dX4_chooseIfMore_13 ?_
  refine g_iadd hX dX4_chooseIfMore_14 ?_
  refine g_mmin hX dX4_chooseIfMore_15 ml_X4_87 tw_ms_min tw_ini_J9 tw_mc_min (by decide) (Nat.le_of_ble_eq_true rfl) (Nat.le_refl _) (Nat.le_refl _) ?_
  refine g_top (v' := (gv (mnN t o))) (gv_min ht ho2) ?_
  refine g_istore_n (L' := [some (.ref v0), some (.int (gv t)), some (.int (gv (mnN t o))), none, none, none]) hX dX4_chooseIfMore_18 (by decide) rfl ?_
  refine g_iconst hX dX4_chooseIfMore_19 kn_i_0 ?_
  refine g_istore_n (L' := [some (.ref v0), some (.int (gv t)), some (.int (gv (mnN t o))), some (.int (nI 0)), none, none]) hX dX4_chooseIfMore_20 (by decide) rfl ?_
  refine g_iconst hX dX4_chooseIfMore_21 kn_i_0 ?_
  refine g_istore (L' := [some (.ref v0), some (.int (gv t)), some (.int (gv (mnN t o))), some (.int (nI 0)), some (.int (nI 0)), none]) hX dX4_chooseIfMore_22 (by decide) rfl ?_
  refine g_iload_n hX dX4_chooseIfMore_24 rfl ?_
  refine g_istore (L' := [some (.ref v0), some (.int (gv t)), some (.int (gv (mnN t o))), some (.int (nI 0)), some (.int (nI 0)), some (.int (gv t))]) hX dX4_chooseIfMore_25 (by decide) rfl ?_
  have loop27 : ∀ u : Nat, u ≤ (mnN t o + 1) → (t ≤ u) → G X Q [(v0, .inr (5, [.ref s0, .ref l0, .ref g0, .int sv, .int cr, .int cf, .int pr, .int jd, .int (nI kp), .int ks, .int kl, .ref v1])), (s0, .inr (6, [.int (r 0), .ref s1, .ref s2, .ref s3, .ref s4, .int vn])), (s3, .inl (D.1 100, 5, .inl (sT r))), (v1, .inl (D.1 100, 41, .inl (tyA r i j 64)))] 0 0 27 [some (.ref v0), some (.int (gv t)), some (.int (gv (mnN t o))), some (.int (nI (cntB (rgP r i j t u) 64))), some (.int (rgS r i j t u 64)), some (.int (gv u))] [] := by
    refine loopN (mnN t o + 1) (fun u hh27 ih27 => ?_)
    intro hge
    refine g_iload hX dX4_chooseIfMore_27 rfl ?_
    refine g_iload_n hX dX4_chooseIfMore_29 rfl ?_
    refine g_icmp_gt (tgt := 70) hX dX4_chooseIfMore_30 (by decide) (fun h30 => ?_) (fun h30 => ?_)
    · skip
      obtain rfl : u = mnN t o + 1 := by have := (gv_lt (by omega) (by omega)).mp h30; omega
      have hb := cntB_le (rgP r i j t (mnN t o + 1)) 64
      refine g_iload_n hX dX4_chooseIfMore_70 rfl ?_
      refine g_aload_n hX dX4_chooseIfMore_71 rfl ?_
      refine g_getf hX dX4_chooseIfMore_72 fk_X4_37 0 rfl rfl ?_
      refine g_icmpN_le (tgt := 94) hX dX4_chooseIfMore_75 (by decide) (by omega) (by omega) (fun h75 => ?_) (fun h75 => ?_)
      · skip
        subst hQ
        exact g_vret hX dX4_chooseIfMore_94 rfl (by rw [if_pos (show wnN r i j o t ≤ kp from h75), if_pos (show wnN r i j o t ≤ kp from h75), if_pos (show wnN r i j o t ≤ kp from h75)]) rfl rfl
      · skip
        refine g_aload_n hX dX4_chooseIfMore_78 rfl ?_
        refine g_iload_n hX dX4_chooseIfMore_79 rfl ?_
        refine g_puti (ws' := [(v0, .inr (5, [.ref s0, .ref l0, .ref g0, .int sv, .int cr, .int cf, .int pr, .int jd, .int (nI (cntB (rgP r i j t (mnN t o + 1)) 64)), .int ks, .int kl, .ref v1])), (s0, .inr (6, [.int (r 0), .ref s1, .ref s2, .ref s3, .ref s4, .int vn])), (s3, .inl (D.1 100, 5, .inl (sT r))), (v1, .inl (D.1 100, 41, .inl (tyA r i j 64)))]) hX dX4_chooseIfMore_80 fp_X4_37 0 rfl (Nat.le_of_ble_eq_true rfl) rfl ?_
        refine g_aload_n hX dX4_chooseIfMore_83 rfl ?_
        refine g_iload hX dX4_chooseIfMore_84 rfl ?_
        refine g_puti (ws' := [(v0, .inr (5, [.ref s0, .ref l0, .ref g0, .int sv, .int cr, .int cf, .int pr, .int jd, .int (nI (cntB (rgP r i j t (mnN t o + 1)) 64)), .int (rgS r i j t (mnN t o + 1) 64), .int kl, .ref v1])), (s0, .inr (6, [.int (r 0), .ref s1, .ref s2, .ref s3, .ref s4, .int vn])), (s3, .inl (D.1 100, 5, .inl (sT r))), (v1, .inl (D.1 100, 41, .inl (tyA r i j 64)))]) hX dX4_chooseIfMore_86 fp_X4_40 0 rfl (Nat.le_of_ble_eq_true rfl) rfl ?_
        refine g_aload_n hX dX4_chooseIfMore_89 rfl ?_
        refine g_iload_n hX dX4_chooseIfMore_90 rfl ?_
        refine g_puti (ws' := [(v0, .inr (5, [.ref s0, .ref l0, .ref g0, .int sv, .int cr, .int cf, .int pr, .int jd, .int (nI (cntB (rgP r i j t (mnN t o + 1)) 64)), .int (rgS r i j t (mnN t o + 1) 64), .int (gv t), .ref v1])), (s0, .inr (6, [.int (r 0), .ref s1, .ref s2, .ref s3, .ref s4, .int vn])), (s3, .inl (D.1 100, 5, .inl (sT r))), (v1, .inl (D.1 100, 41, .inl (tyA r i j 64)))]) hX dX4_chooseIfMore_91 fp_X4_43 0 rfl (Nat.le_of_ble_eq_true rfl) rfl ?_
        subst hQ
        exact g_vret hX dX4_chooseIfMore_94 rfl (by rw [if_neg (show ¬ wnN r i j o t ≤ kp from h75), if_neg (show ¬ wnN r i j o t ≤ kp from h75), if_neg (show ¬ wnN r i j o t ≤ kp from h75)]; rfl) rfl rfl
    · skip
      have hul : u ≤ mnN t o := gv_nlt hmn.2 (by omega) h30
      refine g_iload_n hX dX4_chooseIfMore_33 rfl ?_
      refine g_aload_n hX dX4_chooseIfMore_34 rfl ?_
      refine g_getf hX dX4_chooseIfMore_35 fk_X4_46 0 rfl rfl ?_
      refine g_iload hX dX4_chooseIfMore_38 rfl ?_
      refine g_bipush hX dX4_chooseIfMore_40 kn_b_20 ?_
      refine g_iadd hX dX4_chooseIfMore_42 ?_
      refine g_top (v' := nI u) (gv_ix u (by omega)) ?_
      refine g_iald hX dX4_chooseIfMore_43 3 rfl (by decide) (by omega) ?_
      refine g_top (v' := nI (cntB (tyP r i j u) 64)) (rfl) ?_
      refine g_iaddN hX dX4_chooseIfMore_44 ?_
      refine g_istore_n (L' := [some (.ref v0), some (.int (gv t)), some (.int (gv (mnN t o))), some (.int (nI ((cntB (rgP r i j t u) 64) + (cntB (tyP r i j u) 64)))), some (.int (rgS r i j t u 64)), some (.int (gv u))]) hX dX4_chooseIfMore_45 (by decide) rfl ?_
      refine g_iload hX dX4_chooseIfMore_46 rfl ?_
      refine g_iload hX dX4_chooseIfMore_48 rfl ?_
      refine g_aload_n hX dX4_chooseIfMore_50 rfl ?_
      refine g_getf hX dX4_chooseIfMore_51 fk_X4_46 0 rfl rfl ?_
      refine g_iload hX dX4_chooseIfMore_54 rfl ?_
      refine g_bipush hX dX4_chooseIfMore_56 kn_b_20 ?_
      refine g_iadd hX dX4_chooseIfMore_58 ?_
      refine g_top (v' := nI u) (gv_ix u (by omega)) ?_
      refine g_iald hX dX4_chooseIfMore_59 3 rfl (by decide) (by omega) ?_
      refine g_top (v' := nI (cntB (tyP r i j u) 64)) (rfl) ?_
      refine g_imul hX dX4_chooseIfMore_60 ?_
      refine g_iadd hX dX4_chooseIfMore_61 ?_
      refine g_istore (L' := [some (.ref v0), some (.int (gv t)), some (.int (gv (mnN t o))), some (.int (nI ((cntB (rgP r i j t u) 64) + (cntB (tyP r i j u) 64)))), some (.int ((rgS r i j t u 64) + ((gv u) * (nI (cntB (tyP r i j u) 64))))), some (.int (gv u))]) hX dX4_chooseIfMore_62 (by decide) rfl ?_
      refine g_iinc (L' := [some (.ref v0), some (.int (gv t)), some (.int (gv (mnN t o))), some (.int (nI ((cntB (rgP r i j t u) 64) + (cntB (tyP r i j u) 64)))), some (.int ((rgS r i j t u 64) + ((gv u) * (nI (cntB (tyP r i j u) 64))))), some (.int ((gv u) + 1))]) hX dX4_chooseIfMore_64 rfl (by rfl) (by decide) rfl ?_
      refine g_goto (tgt := 27) hX dX4_chooseIfMore_67 (by decide) ?_
      exact g_fin (ih27 (by omega) (by omega)) (rfl) rfl ⟨rfl, rfl, rfl, (congrArg some (congrArg Value.int (congrArg nI (rg_s hge 64)))), (congrArg some (congrArg Value.int (rgS_s hg (by omega) hge 64 (Nat.le_refl _)))), rfl, trivial⟩
  exact g_fin (loop27 t (by omega) (Nat.le_refl _)) (rfl) rfl ⟨rfl, rfl, rfl, (congrArg some (congrArg Value.int (congrArg nI rg_0.symm))), (congrArg some (congrArg Value.int (rgS_0 64).symm)), rfl, trivial⟩
set_option maxRecDepth 100000 in
set_option maxHeartbeats 4000000 in
theorem ct_X4_chooseKept {l : Launch} {D : va_G} {v0 v1 s0 s1 s2 s3 s4 l0 g0 : Nat} {r : Nat → Int32} {vn sv : Int32} {cr cf pr jd kp ks kl : Int32} {i j o : Nat} (hg : okG r) (ho : r 2 = nI o) (ho2 : o ≤ 20) : Cf l D yX4_chooseKept cX4_chooseKept 2 none 2 65 [.ref v0] [(v0, .inr (5, [.ref s0, .ref l0, .ref g0, .int sv, .int cr, .int cf, .int pr, .int jd, .int kp, .int ks, .int kl, .ref v1])), (s0, .inr (6, [.int (r 0), .ref s1, .ref s2, .ref s3, .ref s4, .int vn])), (s3, .inl (D.1 100, 5, .inl (sT r))), (v1, .inl (D.1 100, 41, .inl (tyA r i j 64)))] none [(v0, .inr (5, [.ref s0, .ref l0, .ref g0, .int sv, .int cr, .int cf, .int pr, .int jd, .int (nI (kpN r i j o 41)), .int (kSm r i j o 41), .int (kLs r i j o 41), .ref v1])), (s0, .inr (6, [.int (r 0), .ref s1, .ref s2, .ref s3, .ref s4, .int vn])), (s3, .inl (D.1 100, 5, .inl (sT r))), (v1, .inl (D.1 100, 41, .inl (tyA r i j 64)))] := by
  refine Ct.ofG (by decide) (Nat.le_of_ble_eq_true rfl) ?_
  intro X hX
  have hX : CX X l D RX4 "chooseKept" cX4_chooseKept 2 none 2 65 0 0 := hX
  show G X (QF X none [(v0, .inr (5, [.ref s0, .ref l0, .ref g0, .int sv, .int cr, .int cf, .int pr, .int jd, .int (nI (kpN r i j o 41)), .int (kSm r i j o 41), .int (kLs r i j o 41), .ref v1])), (s0, .inr (6, [.int (r 0), .ref s1, .ref s2, .ref s3, .ref s4, .int vn])), (s3, .inl (D.1 100, 5, .inl (sT r))), (v1, .inl (D.1 100, 41, .inl (tyA r i j 64)))]) [(v0, .inr (5, [.ref s0, .ref l0, .ref g0, .int sv, .int cr, .int cf, .int pr, .int jd, .int kp, .int ks, .int kl, .ref v1])), (s0, .inr (6, [.int (r 0), .ref s1, .ref s2, .ref s3, .ref s4, .int vn])), (s3, .inl (D.1 100, 5, .inl (sT r))), (v1, .inl (D.1 100, 41, .inl (tyA r i j 64)))] 0 0 0 [some (.ref v0), none] []
  generalize hQ : QF X none [(v0, .inr (5, [.ref s0, .ref l0, .ref g0, .int sv, .int cr, .int cf, .int pr, .int jd, .int (nI (kpN r i j o 41)), .int (kSm r i j o 41), .int (kLs r i j o 41), .ref v1])), (s0, .inr (6, [.int (r 0), .ref s1, .ref s2, .ref s3, .ref s4, .int vn])), (s3, .inl (D.1 100, 5, .inl (sT r))), (v1, .inl (D.1 100, 41, .inl (tyA r i j 64)))] = Q
  refine g_aload_n hX dX4_chooseKept_0 rfl ?_
  refine g_iconst hX dX4_chooseKept_1 kn_i_0 ?_
  refine g_puti (ws' := [(v0, .inr (5, [.ref s0, .ref l0, .ref g0, .int sv, .int cr, .int cf, .int pr, .int jd, .int (nI 0), .int ks, .int kl, .ref v1])), (s0, .inr (6, [.int (r 0), .ref s1, .ref s2, .ref s3, .ref s4, .int vn])), (s3, .inl (D.1 100, 5, .inl (sT r))), (v1, .inl (D.1 100, 41, .inl (tyA r i j 64)))]) hX dX4_chooseKept_2 fp_X4_37 0 rfl (Nat.le_of_ble_eq_true rfl) rfl ?_
  refine g_aload_n hX dX4_chooseKept_5 rfl ?_
  refine g_iconst hX dX4_chooseKept_6 kn_i_0 ?_
  refine g_puti (ws' := [(v0, .inr (5, [.ref s0, .ref l0, .ref g0, .int sv, .int cr, .int cf, .int pr, .int jd, .int (nI 0), .int (nI 0), .int kl, .ref v1])), (s0, .inr (6, [.int (r 0), .ref s1, .ref s2, .ref s3, .ref s4, .int vn])), (s3, .inl (D.1 100, 5, .inl (sT r))), (v1, .inl (D.1 100, 41, .inl (tyA r i j 64)))]) hX dX4_chooseKept_7 fp_X4_40 0 rfl (Nat.le_of_ble_eq_true rfl) rfl ?_
  refine g_aload_n hX dX4_chooseKept_10 rfl ?_
  refine g_iconst hX dX4_chooseKept_11 kn_i_0 ?_
  refine g_puti (ws' := [(v0, .inr (5, [.ref s0, .ref l0, .ref g0, .int sv, .int cr, .int cf, .int pr, .int jd, .int (nI 0), .int (nI 0), .int (nI 0), .ref v1])), (s0, .inr (6, [.int (r 0), .ref s1, .ref s2, .ref s3, .ref s4, .int vn])), (s3, .inl (D.1 100, 5, .inl (sT r))), (v1, .inl (D.1 100, 41, .inl (tyA r i j 64)))]) hX dX4_chooseKept_12 fp_X4_43 0 rfl (Nat.le_of_ble_eq_true rfl) rfl ?_
  refine g_bipush hX dX4_chooseKept_15 kn_b_m20 ?_
  refine g_istore_n (L' := [some (.ref v0), some (.int (-20))]) hX dX4_chooseKept_17 (by decide) rfl ?_
  have loop18 : ∀ t : Nat, t ≤ 41 → G X Q [(v0, .inr (5, [.ref s0, .ref l0, .ref g0, .int sv, .int cr, .int cf, .int pr, .int jd, .int (nI (kpN r i j o t)), .int (kSm r i j o t), .int (kLs r i j o t), .ref v1])), (s0, .inr (6, [.int (r 0), .ref s1, .ref s2, .ref s3, .ref s4, .int vn])), (s3, .inl (D.1 100, 5, .inl (sT r))), (v1, .inl (D.1 100, 41, .inl (tyA r i j 64)))] 0 0 18 [some (.ref v0), some (.int (gv t))] [] := by
    refine loopN 41 (fun t hh18 ih18 => ?_)
    have hk64 := (kw hg (i := i) (j := j) ho ho2 t hh18).2.1
    refine g_iload_n hX dX4_chooseKept_18 rfl ?_
    refine g_bipush hX dX4_chooseKept_19 kn_b_20 ?_
    refine g_icmp_gt (tgt := 47) hX dX4_chooseKept_21 (by decide) (fun h21 => ?_) (fun h21 => ?_)
    · skip
      obtain rfl : t = 41 := by have := (gv_gt t hh18).mp h21; omega
      subst hQ
      exact g_vret hX dX4_chooseKept_47 rfl (rfl) rfl rfl
    · skip
      have ht40 : t ≤ 40 := by rcases Nat.lt_or_ge 40 t with q | q; exact absurd ((gv_gt t hh18).mpr q) h21; exact q
      refine g_aload_n hX dX4_chooseKept_24 rfl ?_
      refine g_getf hX dX4_chooseKept_25 fk_X4_46 0 rfl rfl ?_
      refine g_iload_n hX dX4_chooseKept_28 rfl ?_
      refine g_bipush hX dX4_chooseKept_29 kn_b_20 ?_
      refine g_iadd hX dX4_chooseKept_31 ?_
      refine g_top (v' := nI t) (gv_ix t ht40) ?_
      refine g_iald hX dX4_chooseKept_32 3 rfl (by decide) (by omega) ?_
      refine g_top (v' := nI (cntB (tyP r i j t) 64)) (rfl) ?_
      have hb := cntB_le (tyP r i j t) 64
      refine g_ifN_le (tgt := 41) hX dX4_chooseKept_33 (by decide) (by omega) (fun h33 => ?_) (fun h33 => ?_)
      · skip
        refine g_iinc (L' := [some (.ref v0), some (.int ((gv t) + 1))]) hX dX4_chooseKept_41 rfl (by rfl) (by decide) rfl ?_
        refine g_goto (tgt := 18) hX dX4_chooseKept_44 (by decide) ?_
        exact g_fin (ih18 (by omega) ) (by rw [(kk_0 h33).1, (kk_0 h33).2.1, (kk_0 h33).2.2]) rfl ⟨rfl, rfl, trivial⟩
      · skip
        refine g_aload_n hX dX4_chooseKept_36 rfl ?_
        refine g_iload_n hX dX4_chooseKept_37 rfl ?_
        refine g_callFv (ws' := [(v0, .inr (5, [.ref s0, .ref l0, .ref g0, .int sv, .int cr, .int cf, .int pr, .int jd, .int (nI (if wnN r i j o t ≤ (kpN r i j o t) then (kpN r i j o t) else wnN r i j o t)), .int (if wnN r i j o t ≤ (kpN r i j o t) then (kSm r i j o t) else wsI r i j o t), .int (if wnN r i j o t ≤ (kpN r i j o t) then (kLs r i j o t) else gv t), .ref v1])), (s0, .inr (6, [.int (r 0), .ref s1, .ref s2, .ref s3, .ref s4, .int vn])), (s3, .inl (D.1 100, 5, .inl (sT r))), (v1, .inl (D.1 100, 41, .inl (tyA r i j 64)))]) hX dX4_chooseKept_38 cw_X4_80 (ct_X4_chooseIfMore  (by first | with_reducible assumption | assumption) (by first | with_reducible assumption | assumption) (by omega) (by omega) (by omega)) 0 5 [0, 1, 2, 3] rfl rfl rfl rfl (by decide) rfl rfl ⟨by decide, by decide⟩ (Nat.le_of_ble_eq_true rfl) (Nat.le_refl _) (Nat.le_refl _) rfl ?_
        refine g_iinc (L' := [some (.ref v0), some (.int ((gv t) + 1))]) hX dX4_chooseKept_41 rfl (by rfl) (by decide) rfl ?_
        refine g_goto (tgt := 18) hX dX4_chooseKept_44 (by decide) ?_
        exact g_fin (ih18 (by omega) ) (by rw [(kk_1 h33).1, (kk_1 h33).2.1, (kk_1 h33).2.2]) rfl ⟨rfl, rfl, trivial⟩
  exact g_fin (loop18 0 (by omega) ) (rfl) rfl ⟨rfl, rfl, trivial⟩
set_option maxRecDepth 100000 in
set_option maxHeartbeats 4000000 in
theorem ct_X4_survey {l : Launch} {D : va_G} {v0 v1 s0 s1 s2 s3 s4 l0 l1 l2 l3 g0 g1 g2 g3 : Nat} {r : Nat → Int32} {vn sv : Int32} {cr cf pr jd kp ks kl : Int32} {i j o : Nat} {ta : Nat → Int32} (hg : okG r) (ho : r 2 = nI o) (ho2 : o ≤ 20) (hi : i < 2147483648) (hj : j < 2147483648) : Cf l D yX4_survey cX4_survey 5 none 3 86 [.ref v0, .int (nI i), .int (nI j)] [(v0, .inr (5, [.ref s0, .ref l0, .ref g0, .int sv, .int cr, .int cf, .int pr, .int jd, .int kp, .int ks, .int kl, .ref v1])), (s0, .inr (6, [.int (r 0), .ref s1, .ref s2, .ref s3, .ref s4, .int vn])), (s3, .inl (D.1 100, 5, .inl (sT r))), (s4, .inl (D.1 100, 64, .inl (sG r))), (l0, .inr (2, [.ref l1, .int (nI (clM r 0)), .ref l2, .ref l3])), (l1, .inl (D.1 100, 8, .inl (clA r 0))), (g0, .inr (2, [.ref g1, .int (nI (clM r 1)), .ref g2, .ref g3])), (g1, .inl (D.1 100, 8, .inl (clA r 1))), (v1, .inl (D.1 100, 41, .inl ta))] none [(v0, .inr (5, [.ref s0, .ref l0, .ref g0, .int sv, .int (nI i), .int (nI j), .int (nI (prN r i j)), .int (nI (jdN r i j)), .int (nI (kpN r i j o 41)), .int (kSm r i j o 41), .int (kLs r i j o 41), .ref v1])), (s0, .inr (6, [.int (r 0), .ref s1, .ref s2, .ref s3, .ref s4, .int vn])), (s3, .inl (D.1 100, 5, .inl (sT r))), (s4, .inl (D.1 100, 64, .inl (sG r))), (l0, .inr (2, [.ref l1, .int (nI (clM r 0)), .ref l2, .ref l3])), (l1, .inl (D.1 100, 8, .inl (clA r 0))), (g0, .inr (2, [.ref g1, .int (nI (clM r 1)), .ref g2, .ref g3])), (g1, .inl (D.1 100, 8, .inl (clA r 1))), (v1, .inl (D.1 100, 41, .inl (tyA r i j 64)))] := by
  refine Ct.ofG (by decide) (Nat.le_of_ble_eq_true rfl) ?_
  intro X hX
  have hX : CX X l D RX4 "survey" cX4_survey 5 none 3 86 0 0 := hX
  show G X (QF X none [(v0, .inr (5, [.ref s0, .ref l0, .ref g0, .int sv, .int (nI i), .int (nI j), .int (nI (prN r i j)), .int (nI (jdN r i j)), .int (nI (kpN r i j o 41)), .int (kSm r i j o 41), .int (kLs r i j o 41), .ref v1])), (s0, .inr (6, [.int (r 0), .ref s1, .ref s2, .ref s3, .ref s4, .int vn])), (s3, .inl (D.1 100, 5, .inl (sT r))), (s4, .inl (D.1 100, 64, .inl (sG r))), (l0, .inr (2, [.ref l1, .int (nI (clM r 0)), .ref l2, .ref l3])), (l1, .inl (D.1 100, 8, .inl (clA r 0))), (g0, .inr (2, [.ref g1, .int (nI (clM r 1)), .ref g2, .ref g3])), (g1, .inl (D.1 100, 8, .inl (clA r 1))), (v1, .inl (D.1 100, 41, .inl (tyA r i j 64)))]) [(v0, .inr (5, [.ref s0, .ref l0, .ref g0, .int sv, .int cr, .int cf, .int pr, .int jd, .int kp, .int ks, .int kl, .ref v1])), (s0, .inr (6, [.int (r 0), .ref s1, .ref s2, .ref s3, .ref s4, .int vn])), (s3, .inl (D.1 100, 5, .inl (sT r))), (s4, .inl (D.1 100, 64, .inl (sG r))), (l0, .inr (2, [.ref l1, .int (nI (clM r 0)), .ref l2, .ref l3])), (l1, .inl (D.1 100, 8, .inl (clA r 0))), (g0, .inr (2, [.ref g1, .int (nI (clM r 1)), .ref g2, .ref g3])), (g1, .inl (D.1 100, 8, .inl (clA r 1))), (v1, .inl (D.1 100, 41, .inl ta))] 0 0 0 [some (.ref v0), some (.int (nI i)), some (.int (nI j)), none, none] []
  generalize hQ : QF X none [(v0, .inr (5, [.ref s0, .ref l0, .ref g0, .int sv, .int (nI i), .int (nI j), .int (nI (prN r i j)), .int (nI (jdN r i j)), .int (nI (kpN r i j o 41)), .int (kSm r i j o 41), .int (kLs r i j o 41), .ref v1])), (s0, .inr (6, [.int (r 0), .ref s1, .ref s2, .ref s3, .ref s4, .int vn])), (s3, .inl (D.1 100, 5, .inl (sT r))), (s4, .inl (D.1 100, 64, .inl (sG r))), (l0, .inr (2, [.ref l1, .int (nI (clM r 0)), .ref l2, .ref l3])), (l1, .inl (D.1 100, 8, .inl (clA r 0))), (g0, .inr (2, [.ref g1, .int (nI (clM r 1)), .ref g2, .ref g3])), (g1, .inl (D.1 100, 8, .inl (clA r 1))), (v1, .inl (D.1 100, 41, .inl (tyA r i j 64)))] = Q
  refine g_aload_n hX dX4_survey_0 rfl ?_
  refine g_iload_n hX dX4_survey_1 rfl ?_
  refine g_puti (ws' := [(v0, .inr (5, [.ref s0, .ref l0, .ref g0, .int sv, .int (nI i), .int cf, .int pr, .int jd, .int kp, .int ks, .int kl, .ref v1])), (s0, .inr (6, [.int (r 0), .ref s1, .ref s2, .ref s3, .ref s4, .int vn])), (s3, .inl (D.1 100, 5, .inl (sT r))), (s4, .inl (D.1 100, 64, .inl (sG r))), (l0, .inr (2, [.ref l1, .int (nI (clM r 0)), .ref l2, .ref l3])), (l1, .inl (D.1 100, 8, .inl (clA r 0))), (g0, .inr (2, [.ref g1, .int (nI (clM r 1)), .ref g2, .ref g3])), (g1, .inl (D.1 100, 8, .inl (clA r 1))), (v1, .inl (D.1 100, 41, .inl ta))]) hX dX4_survey_2 fp_X4_25 0 rfl (Nat.le_of_ble_eq_true rfl) rfl ?_
  refine g_aload_n hX dX4_survey_5 rfl ?_
  refine g_iload_n hX dX4_survey_6 rfl ?_
  refine g_puti (ws' := [(v0, .inr (5, [.ref s0, .ref l0, .ref g0, .int sv, .int (nI i), .int (nI j), .int pr, .int jd, .int kp, .int ks, .int kl, .ref v1])), (s0, .inr (6, [.int (r 0), .ref s1, .ref s2, .ref s3, .ref s4, .int vn])), (s3, .inl (D.1 100, 5, .inl (sT r))), (s4, .inl (D.1 100, 64, .inl (sG r))), (l0, .inr (2, [.ref l1, .int (nI (clM r 0)), .ref l2, .ref l3])), (l1, .inl (D.1 100, 8, .inl (clA r 0))), (g0, .inr (2, [.ref g1, .int (nI (clM r 1)), .ref g2, .ref g3])), (g1, .inl (D.1 100, 8, .inl (clA r 1))), (v1, .inl (D.1 100, 41, .inl ta))]) hX dX4_survey_7 fp_X4_28 0 rfl (Nat.le_of_ble_eq_true rfl) rfl ?_
  refine g_aload_n hX dX4_survey_10 rfl ?_
  refine g_iconst hX dX4_survey_11 kn_i_0 ?_
  refine g_puti (ws' := [(v0, .inr (5, [.ref s0, .ref l0, .ref g0, .int sv, .int (nI i), .int (nI j), .int (nI 0), .int jd, .int kp, .int ks, .int kl, .ref v1])), (s0, .inr (6, [.int (r 0), .ref s1, .ref s2, .ref s3, .ref s4, .int vn])), (s3, .inl (D.1 100, 5, .inl (sT r))), (s4, .inl (D.1 100, 64, .inl (sG r))), (l0, .inr (2, [.ref l1, .int (nI (clM r 0)), .ref l2, .ref l3])), (l1, .inl (D.1 100, 8, .inl (clA r 0))), (g0, .inr (2, [.ref g1, .int (nI (clM r 1)), .ref g2, .ref g3])), (g1, .inl (D.1 100, 8, .inl (clA r 1))), (v1, .inl (D.1 100, 41, .inl ta))]) hX dX4_survey_12 fp_X4_31 0 rfl (Nat.le_of_ble_eq_true rfl) rfl ?_
  refine g_aload_n hX dX4_survey_15 rfl ?_
  refine g_iconst hX dX4_survey_16 kn_i_0 ?_
  refine g_puti (ws' := [(v0, .inr (5, [.ref s0, .ref l0, .ref g0, .int sv, .int (nI i), .int (nI j), .int (nI 0), .int (nI 0), .int kp, .int ks, .int kl, .ref v1])), (s0, .inr (6, [.int (r 0), .ref s1, .ref s2, .ref s3, .ref s4, .int vn])), (s3, .inl (D.1 100, 5, .inl (sT r))), (s4, .inl (D.1 100, 64, .inl (sG r))), (l0, .inr (2, [.ref l1, .int (nI (clM r 0)), .ref l2, .ref l3])), (l1, .inl (D.1 100, 8, .inl (clA r 0))), (g0, .inr (2, [.ref g1, .int (nI (clM r 1)), .ref g2, .ref g3])), (g1, .inl (D.1 100, 8, .inl (clA r 1))), (v1, .inl (D.1 100, 41, .inl ta))]) hX dX4_survey_17 fp_X4_34 0 rfl (Nat.le_of_ble_eq_true rfl) rfl ?_
  refine g_iconst hX dX4_survey_20 kn_i_0 ?_
  refine g_istore_n (L' := [some (.ref v0), some (.int (nI i)), some (.int (nI j)), some (.int (nI 0)), none]) hX dX4_survey_21 (by decide) rfl ?_
  have loop22 : ∀ n : Nat, n ≤ 41 → G X Q [(v0, .inr (5, [.ref s0, .ref l0, .ref g0, .int sv, .int (nI i), .int (nI j), .int (nI 0), .int (nI 0), .int kp, .int ks, .int kl, .ref v1])), (s0, .inr (6, [.int (r 0), .ref s1, .ref s2, .ref s3, .ref s4, .int vn])), (s3, .inl (D.1 100, 5, .inl (sT r))), (s4, .inl (D.1 100, 64, .inl (sG r))), (l0, .inr (2, [.ref l1, .int (nI (clM r 0)), .ref l2, .ref l3])), (l1, .inl (D.1 100, 8, .inl (clA r 0))), (g0, .inr (2, [.ref g1, .int (nI (clM r 1)), .ref g2, .ref g3])), (g1, .inl (D.1 100, 8, .inl (clA r 1))), (v1, .inl (D.1 100, 41, .inl (zTo ta n)))] 0 0 22 [some (.ref v0), some (.int (nI i)), some (.int (nI j)), some (.int (nI n)), none] [] := by
    refine loopN 41 (fun n hh22 ih22 => ?_)
    refine g_iload_n hX dX4_survey_22 rfl ?_
    refine g_aload_n hX dX4_survey_23 rfl ?_
    refine g_getf hX dX4_survey_24 fk_X4_46 0 rfl rfl ?_
    refine g_aleni hX dX4_survey_27 8 rfl ?_
    refine g_icmpN_ge (tgt := 44) hX dX4_survey_28 (by decide) (by omega) (by omega) (fun h28 => ?_) (fun h28 => ?_)
    · skip
      obtain rfl : n = 41 := by omega
      refine g_cong (ws' := [(v0, .inr (5, [.ref s0, .ref l0, .ref g0, .int sv, .int (nI i), .int (nI j), .int (nI 0), .int (nI 0), .int kp, .int ks, .int kl, .ref v1])), (s0, .inr (6, [.int (r 0), .ref s1, .ref s2, .ref s3, .ref s4, .int vn])), (s3, .inl (D.1 100, 5, .inl (sT r))), (s4, .inl (D.1 100, 64, .inl (sG r))), (l0, .inr (2, [.ref l1, .int (nI (clM r 0)), .ref l2, .ref l3])), (l1, .inl (D.1 100, 8, .inl (clA r 0))), (g0, .inr (2, [.ref g1, .int (nI (clM r 1)), .ref g2, .ref g3])), (g1, .inl (D.1 100, 8, .inl (clA r 1))), (v1, .inl (D.1 100, 41, .inl (tyA r i j 0)))]) (g := tyA r i j 0) 8 rfl (fun k hk => zTo_end hk) rfl ?_
      refine g_iconst hX dX4_survey_44 kn_i_0 ?_
      refine g_istore_n (L' := [some (.ref v0), some (.int (nI i)), some (.int (nI j)), some (.int (nI 0)), none]) hX dX4_survey_45 (by decide) rfl ?_
      have loop46 : ∀ c : Nat, c ≤ 8 → G X Q [(v0, .inr (5, [.ref s0, .ref l0, .ref g0, .int sv, .int (nI i), .int (nI j), .int (nI (cntB (inC r i j) (8 * c))), .int (nI (cntB (jdP r i j) (8 * c))), .int kp, .int ks, .int kl, .ref v1])), (s0, .inr (6, [.int (r 0), .ref s1, .ref s2, .ref s3, .ref s4, .int vn])), (s3, .inl (D.1 100, 5, .inl (sT r))), (s4, .inl (D.1 100, 64, .inl (sG r))), (l0, .inr (2, [.ref l1, .int (nI (clM r 0)), .ref l2, .ref l3])), (l1, .inl (D.1 100, 8, .inl (clA r 0))), (g0, .inr (2, [.ref g1, .int (nI (clM r 1)), .ref g2, .ref g3])), (g1, .inl (D.1 100, 8, .inl (clA r 1))), (v1, .inl (D.1 100, 41, .inl (tyA r i j (8 * c))))] 0 0 46 [some (.ref v0), some (.int (nI i)), some (.int (nI j)), some (.int (nI c)), none] [] := by
        refine loopN 8 (fun c hh46 ih46 => ?_)
        refine g_iload_n hX dX4_survey_46 rfl ?_
        refine g_bipush hX dX4_survey_47 kn_b_8 ?_
        refine g_icmpN_ge (tgt := 139) hX dX4_survey_49 (by decide) (by omega) (by omega) (fun h49 => ?_) (fun h49 => ?_)
        · skip
          obtain rfl : c = 8 := by omega
          refine g_aload_n hX dX4_survey_139 rfl ?_
          refine g_callFv (ws' := [(v0, .inr (5, [.ref s0, .ref l0, .ref g0, .int sv, .int (nI i), .int (nI j), .int (nI (cntB (inC r i j) (8 * 8))), .int (nI (cntB (jdP r i j) (8 * 8))), .int (nI (kpN r i j o 41)), .int (kSm r i j o 41), .int (kLs r i j o 41), .ref v1])), (s0, .inr (6, [.int (r 0), .ref s1, .ref s2, .ref s3, .ref s4, .int vn])), (s3, .inl (D.1 100, 5, .inl (sT r))), (s4, .inl (D.1 100, 64, .inl (sG r))), (l0, .inr (2, [.ref l1, .int (nI (clM r 0)), .ref l2, .ref l3])), (l1, .inl (D.1 100, 8, .inl (clA r 0))), (g0, .inr (2, [.ref g1, .int (nI (clM r 1)), .ref g2, .ref g3])), (g1, .inl (D.1 100, 8, .inl (clA r 1))), (v1, .inl (D.1 100, 41, .inl (tyA r i j 64)))]) hX dX4_survey_140 cw_X4_74 (ct_X4_chooseKept  (by first | with_reducible assumption | assumption) (by first | with_reducible assumption | assumption) (by omega)) 0 5 [0, 1, 2, 8] rfl rfl rfl rfl (by decide) rfl rfl ⟨by decide, by decide⟩ (Nat.le_of_ble_eq_true rfl) (Nat.le_refl _) (Nat.le_refl _) rfl ?_
          subst hQ
          exact g_vret hX dX4_survey_143 rfl (rfl) rfl rfl
        · skip
          refine g_iconst hX dX4_survey_52 kn_i_0 ?_
          refine g_istore (L' := [some (.ref v0), some (.int (nI i)), some (.int (nI j)), some (.int (nI c)), some (.int (nI 0))]) hX dX4_survey_53 (by decide) rfl ?_
          have loop55 : ∀ d : Nat, d ≤ 8 → G X Q [(v0, .inr (5, [.ref s0, .ref l0, .ref g0, .int sv, .int (nI i), .int (nI j), .int (nI (cntB (inC r i j) (8 * c + d))), .int (nI (cntB (jdP r i j) (8 * c + d))), .int kp, .int ks, .int kl, .ref v1])), (s0, .inr (6, [.int (r 0), .ref s1, .ref s2, .ref s3, .ref s4, .int vn])), (s3, .inl (D.1 100, 5, .inl (sT r))), (s4, .inl (D.1 100, 64, .inl (sG r))), (l0, .inr (2, [.ref l1, .int (nI (clM r 0)), .ref l2, .ref l3])), (l1, .inl (D.1 100, 8, .inl (clA r 0))), (g0, .inr (2, [.ref g1, .int (nI (clM r 1)), .ref g2, .ref g3])), (g1, .inl (D.1 100, 8, .inl (clA r 1))), (v1, .inl (D.1 100, 41, .inl (tyA r i j (8 * c + d))))] 0 0 55 [some (.ref v0), some (.int (nI i)), some (.int (nI j)), some (.int (nI c)), some (.int (nI d))] [] := by
            refine loopN 8 (fun d hh55 ih55 => ?_)
            refine g_iload hX dX4_survey_55 rfl ?_
            refine g_bipush hX dX4_survey_57 kn_b_8 ?_
            refine g_icmpN_ge (tgt := 133) hX dX4_survey_59 (by decide) (by omega) (by omega) (fun h59 => ?_) (fun h59 => ?_)
            · skip
              obtain rfl : d = 8 := by omega
              refine g_iincN (L' := [some (.ref v0), some (.int (nI i)), some (.int (nI j)), some (.int (nI (c + 1))), some (.int (nI 8))]) hX dX4_survey_133 rfl (by decide) rfl ?_
              refine g_goto (tgt := 46) hX dX4_survey_136 (by decide) ?_
              exact g_fin (ih46 (by omega) ) (by rw [show 8 * (c + 1) = 8 * c + 8 by omega]) rfl ⟨rfl, rfl, rfl, rfl, trivial⟩
            · skip
              refine g_aload_n hX dX4_survey_62 rfl ?_
              refine g_iload_n hX dX4_survey_63 rfl ?_
              refine g_iload hX dX4_survey_64 rfl ?_
              refine g_callRi hX dX4_survey_66 cw_X4_63 (ct_X4_inCell  (by omega) (by omega) (by omega) (by omega)) 0 5 [0, 4, 5, 6, 7] rfl rfl rfl rfl (by decide) rfl ⟨by decide, by decide⟩ (Nat.le_of_ble_eq_true rfl) (Nat.le_refl _) (Nat.le_refl _) ?_
              refine g_ifb_eq (tgt := 127) hX dX4_survey_69 (by decide) (fun h69 => ?_) (fun h69 => ?_)
              · skip
                refine g_iincN (L' := [some (.ref v0), some (.int (nI i)), some (.int (nI j)), some (.int (nI c)), some (.int (nI (d + 1)))]) hX dX4_survey_127 rfl (by decide) rfl ?_
                refine g_goto (tgt := 55) hX dX4_survey_130 (by decide) ?_
                obtain ⟨y1, y2, y3⟩ := sy_0 ((inC_cd (by omega)).trans h69)
                exact g_fin (ih55 (by omega) ) (by rw [show 8 * c + (d + 1) = 8 * c + d + 1 from rfl, y1, y2, y3]) rfl ⟨rfl, rfl, rfl, rfl, rfl, trivial⟩
              · skip
                refine g_aload_n hX dX4_survey_72 rfl ?_
                refine g_dup hX dX4_survey_73 rfl ?_
                refine g_getf hX dX4_survey_74 fk_X4_31 0 rfl rfl ?_
                refine g_iconst hX dX4_survey_77 kn_i_1 ?_
                refine g_iaddN hX dX4_survey_78 ?_
                refine g_puti (ws' := [(v0, .inr (5, [.ref s0, .ref l0, .ref g0, .int sv, .int (nI i), .int (nI j), .int (nI ((cntB (inC r i j) (8 * c + d)) + 1)), .int (nI (cntB (jdP r i j) (8 * c + d))), .int kp, .int ks, .int kl, .ref v1])), (s0, .inr (6, [.int (r 0), .ref s1, .ref s2, .ref s3, .ref s4, .int vn])), (s3, .inl (D.1 100, 5, .inl (sT r))), (s4, .inl (D.1 100, 64, .inl (sG r))), (l0, .inr (2, [.ref l1, .int (nI (clM r 0)), .ref l2, .ref l3])), (l1, .inl (D.1 100, 8, .inl (clA r 0))), (g0, .inr (2, [.ref g1, .int (nI (clM r 1)), .ref g2, .ref g3])), (g1, .inl (D.1 100, 8, .inl (clA r 1))), (v1, .inl (D.1 100, 41, .inl (tyA r i j (8 * c + d))))]) hX dX4_survey_79 fp_X4_31 0 rfl (Nat.le_of_ble_eq_true rfl) rfl ?_
                refine g_aload_n hX dX4_survey_82 rfl ?_
                refine g_getf hX dX4_survey_83 fk_X4_50 0 rfl rfl ?_
                refine g_iload_n hX dX4_survey_86 rfl ?_
                refine g_iload hX dX4_survey_87 rfl ?_
                refine g_callRi hX dX4_survey_89 cw_X4_67 (ct_X5_isJudged  (by first | with_reducible assumption | assumption) (by omega) (by omega)) 1 6 [1, 3] rfl rfl rfl rfl (by decide) rfl ⟨by decide, by decide⟩ (Nat.le_of_ble_eq_true rfl) (Nat.le_refl _) (Nat.le_refl _) ?_
                refine g_ifb_eq (tgt := 127) hX dX4_survey_92 (by decide) (fun h92 => ?_) (fun h92 => ?_)
                · skip
                  rw [Nat.add_assoc] at h92
                  refine g_iincN (L' := [some (.ref v0), some (.int (nI i)), some (.int (nI j)), some (.int (nI c)), some (.int (nI (d + 1)))]) hX dX4_survey_127 rfl (by decide) rfl ?_
                  refine g_goto (tgt := 55) hX dX4_survey_130 (by decide) ?_
                  obtain ⟨y1, y2, y3⟩ := sy_1 hg (by omega) ((inC_cd (by omega)).trans h69) h92
                  exact g_fin (ih55 (by omega) ) (by rw [show 8 * c + (d + 1) = 8 * c + d + 1 from rfl, y1, y2, y3]) rfl ⟨rfl, rfl, rfl, rfl, rfl, trivial⟩
                · skip
                  rw [Nat.add_assoc] at h92
                  refine g_aload_n hX dX4_survey_95 rfl ?_
                  refine g_dup hX dX4_survey_96 rfl ?_
                  refine g_getf hX dX4_survey_97 fk_X4_34 0 rfl rfl ?_
                  refine g_iconst hX dX4_survey_100 kn_i_1 ?_
                  refine g_iaddN hX dX4_survey_101 ?_
                  refine g_puti (ws' := [(v0, .inr (5, [.ref s0, .ref l0, .ref g0, .int sv, .int (nI i), .int (nI j), .int (nI ((cntB (inC r i j) (8 * c + d)) + 1)), .int (nI ((cntB (jdP r i j) (8 * c + d)) + 1)), .int kp, .int ks, .int kl, .ref v1])), (s0, .inr (6, [.int (r 0), .ref s1, .ref s2, .ref s3, .ref s4, .int vn])), (s3, .inl (D.1 100, 5, .inl (sT r))), (s4, .inl (D.1 100, 64, .inl (sG r))), (l0, .inr (2, [.ref l1, .int (nI (clM r 0)), .ref l2, .ref l3])), (l1, .inl (D.1 100, 8, .inl (clA r 0))), (g0, .inr (2, [.ref g1, .int (nI (clM r 1)), .ref g2, .ref g3])), (g1, .inl (D.1 100, 8, .inl (clA r 1))), (v1, .inl (D.1 100, 41, .inl (tyA r i j (8 * c + d))))]) hX dX4_survey_102 fp_X4_34 0 rfl (Nat.le_of_ble_eq_true rfl) rfl ?_
                  refine g_aload_n hX dX4_survey_105 rfl ?_
                  refine g_getf hX dX4_survey_106 fk_X4_46 0 rfl rfl ?_
                  refine g_aload_n hX dX4_survey_109 rfl ?_
                  refine g_getf hX dX4_survey_110 fk_X4_50 0 rfl rfl ?_
                  refine g_iload_n hX dX4_survey_113 rfl ?_
                  refine g_iload hX dX4_survey_114 rfl ?_
                  refine g_callRi hX dX4_survey_116 cw_X4_70 (ct_X5_judgedGap  (by omega) (by omega)) 1 6 [1, 3] rfl rfl rfl rfl (by decide) rfl ⟨by decide, by decide⟩ (Nat.le_of_ble_eq_true rfl) (Nat.le_refl _) (Nat.le_refl _) ?_
                  refine g_bipush hX dX4_survey_119 kn_b_20 ?_
                  refine g_iadd hX dX4_survey_121 ?_
                  refine g_top (v' := nI (gN r (8 * c + d) - 80)) (by rw [Nat.add_assoc]; exact (ty_ix hg (by omega) h92).1) ?_
                  have htx := (ty_ix hg (by omega) h92).2
                  refine g_dup2 hX dX4_survey_122 rfl rfl ?_
                  refine g_iald hX dX4_survey_123 8 rfl (by decide) (by omega) ?_
                  refine g_top (v' := nI (cntB (tyP r i j (gN r (8 * c + d) - 80)) (8 * c + d))) (rfl) ?_
                  refine g_iconst hX dX4_survey_124 kn_i_1 ?_
                  refine g_iaddN hX dX4_survey_125 ?_
                  refine g_iast (ws' := [(v0, .inr (5, [.ref s0, .ref l0, .ref g0, .int sv, .int (nI i), .int (nI j), .int (nI ((cntB (inC r i j) (8 * c + d)) + 1)), .int (nI ((cntB (jdP r i j) (8 * c + d)) + 1)), .int kp, .int ks, .int kl, .ref v1])), (s0, .inr (6, [.int (r 0), .ref s1, .ref s2, .ref s3, .ref s4, .int vn])), (s3, .inl (D.1 100, 5, .inl (sT r))), (s4, .inl (D.1 100, 64, .inl (sG r))), (l0, .inr (2, [.ref l1, .int (nI (clM r 0)), .ref l2, .ref l3])), (l1, .inl (D.1 100, 8, .inl (clA r 0))), (g0, .inr (2, [.ref g1, .int (nI (clM r 1)), .ref g2, .ref g3])), (g1, .inl (D.1 100, 8, .inl (clA r 1))), (v1, .inl (D.1 100, 41, .inl (upd (tyA r i j (8 * c + d)) (gN r (8 * c + d) - 80) (nI ((cntB (tyP r i j (gN r (8 * c + d) - 80)) (8 * c + d)) + 1)))))]) hX dX4_survey_126 8 rfl (by decide) (by omega) rfl ?_
                  refine g_iincN (L' := [some (.ref v0), some (.int (nI i)), some (.int (nI j)), some (.int (nI c)), some (.int (nI (d + 1)))]) hX dX4_survey_127 rfl (by decide) rfl ?_
                  refine g_goto (tgt := 55) hX dX4_survey_130 (by decide) ?_
                  obtain ⟨y1, y2, y3⟩ := sy_2 hg (by omega) ((inC_cd (by omega)).trans h69) h92
                  exact g_fin (ih55 (by omega) ) (by rw [show 8 * c + (d + 1) = 8 * c + d + 1 from rfl, y1, y2, y3]) rfl ⟨rfl, rfl, rfl, rfl, rfl, trivial⟩
          exact g_fin (loop55 0 (by omega) ) (rfl) rfl ⟨rfl, rfl, rfl, rfl, rfl, trivial⟩
      exact g_fin (loop46 0 (by omega) ) (rfl) rfl ⟨rfl, rfl, rfl, rfl, trivial⟩
    · skip
      refine g_aload_n hX dX4_survey_31 rfl ?_
      refine g_getf hX dX4_survey_32 fk_X4_46 0 rfl rfl ?_
      refine g_iload_n hX dX4_survey_35 rfl ?_
      refine g_iconst hX dX4_survey_36 kn_i_0 ?_
      refine g_iast (ws' := [(v0, .inr (5, [.ref s0, .ref l0, .ref g0, .int sv, .int (nI i), .int (nI j), .int (nI 0), .int (nI 0), .int kp, .int ks, .int kl, .ref v1])), (s0, .inr (6, [.int (r 0), .ref s1, .ref s2, .ref s3, .ref s4, .int vn])), (s3, .inl (D.1 100, 5, .inl (sT r))), (s4, .inl (D.1 100, 64, .inl (sG r))), (l0, .inr (2, [.ref l1, .int (nI (clM r 0)), .ref l2, .ref l3])), (l1, .inl (D.1 100, 8, .inl (clA r 0))), (g0, .inr (2, [.ref g1, .int (nI (clM r 1)), .ref g2, .ref g3])), (g1, .inl (D.1 100, 8, .inl (clA r 1))), (v1, .inl (D.1 100, 41, .inl (upd (zTo ta n) n (nI 0))))]) hX dX4_survey_37 8 rfl (by decide) (by omega) rfl ?_
      refine g_iincN (L' := [some (.ref v0), some (.int (nI i)), some (.int (nI j)), some (.int (nI (n + 1))), none]) hX dX4_survey_38 rfl (by decide) rfl ?_
      refine g_goto (tgt := 22) hX dX4_survey_41 (by decide) ?_
      exact g_fin (ih22 (by omega) ) (by rw [zTo_s]) rfl ⟨rfl, rfl, rfl, rfl, trivial⟩
  exact g_fin (loop22 0 (by omega) ) (by rw [zTo_0]) rfl ⟨rfl, rfl, rfl, rfl, trivial⟩
