set_option maxRecDepth 100000 in
set_option maxHeartbeats 4000000 in
theorem ct_X6_cell {l : Launch} {D : va_G} {z0 s0 s1 s2 s3 s4 v0 v1 l0 l1 l2 l3 g0 g1 g2 g3 d0 y0 b0 i0 i1 i2 i3 u o : Nat} {r cA lA mA cB lB mB ta : Nat → Int32} {sv ctA ctB cr cf pr jd kp ks kl sd : Int32} {i j what : Int32} (hw : okW r) (hg : okG r) (ho : r 2 = nI o) (ho2 : o ≤ 20) (hD : okD r) (hcap : 0 ≤ r 3) (hlk : 0 ≤ r 1) (hsg : sgP r u sv cA ctA cB ctB) : Ct (S := Int32 × Int32 × Int32 × Int32 × Int32 × Int32 × Int32 × Int32 × Int32 × Int32 × (Nat → Int32) × (Nat → Int32) × (Nat → Int32) × (Nat → Int32) × (Nat → Int32) × (Nat → Int32) × (Nat → Int32)) l D yX6_cell cX6_cell 4 (some .int) 11 259 0 0 [.ref z0, .int i, .int j, .int what] [(z0, .inr (7, [.ref s0, .ref v0, .ref d0, .ref y0, .ref b0, .ref i0, .ref i1, .ref i2, .ref i3, .int sd])), (s0, .inr (6, [.int (r 0), .ref s1, .ref s2, .ref s3, .ref s4, .int (nI u)])), (s1, .inl (D.1 100, 16, .inl (sE r))), (s3, .inl (D.1 100, 5, .inl (sT r))), (s4, .inl (D.1 100, 64, .inl (sG r))), (v0, .inr (5, [.ref s0, .ref l0, .ref g0, .int sv, .int cr, .int cf, .int pr, .int jd, .int kp, .int ks, .int kl, .ref v1])), (l0, .inr (2, [.ref l1, .int ctA, .ref l2, .ref l3])), (l1, .inl (D.1 100, 8, .inl cA)), (l2, .inl (D.1 100, 8, .inl lA)), (l3, .inl (D.1 100, 8, .inl mA)), (g0, .inr (2, [.ref g1, .int ctB, .ref g2, .ref g3])), (g1, .inl (D.1 100, 8, .inl cB)), (g2, .inl (D.1 100, 8, .inl lB)), (g3, .inl (D.1 100, 8, .inl mB)), (v1, .inl (D.1 100, 41, .inl ta))] (fun (rv : Option Value) (ugh : Int32 × Int32 × Int32 × Int32 × Int32 × Int32 × Int32 × Int32 × Int32 × Int32 × (Nat → Int32) × (Nat → Int32) × (Nat → Int32) × (Nat → Int32) × (Nat → Int32) × (Nat → Int32) × (Nat → Int32)) => match ugh with | (sv2, cr2, cf2, pr2, jd2, kp2, ks2, kl2, ctA2, ctB2, cA2, lA2, mA2, cB2, lB2, mB2, ta2) => rv = (some (.int (cellV r i j what))) ∧ (sgP r u sv2 cA2 ctA2 cB2 ctB2)) (fun (ugh : Int32 × Int32 × Int32 × Int32 × Int32 × Int32 × Int32 × Int32 × Int32 × Int32 × (Nat → Int32) × (Nat → Int32) × (Nat → Int32) × (Nat → Int32) × (Nat → Int32) × (Nat → Int32) × (Nat → Int32)) => match ugh with | (sv2, cr2, cf2, pr2, jd2, kp2, ks2, kl2, ctA2, ctB2, cA2, lA2, mA2, cB2, lB2, mB2, ta2) => ([(z0, .inr (7, [.ref s0, .ref v0, .ref d0, .ref y0, .ref b0, .ref i0, .ref i1, .ref i2, .ref i3, .int sd])), (s0, .inr (6, [.int (r 0), .ref s1, .ref s2, .ref s3, .ref s4, .int (nI u)])), (s1, .inl (D.1 100, 16, .inl (sE r))), (s3, .inl (D.1 100, 5, .inl (sT r))), (s4, .inl (D.1 100, 64, .inl (sG r))), (v0, .inr (5, [.ref s0, .ref l0, .ref g0, .int sv2, .int cr2, .int cf2, .int pr2, .int jd2, .int kp2, .int ks2, .int kl2, .ref v1])), (l0, .inr (2, [.ref l1, .int ctA2, .ref l2, .ref l3])), (l1, .inl (D.1 100, 8, .inl cA2)), (l2, .inl (D.1 100, 8, .inl lA2)), (l3, .inl (D.1 100, 8, .inl mA2)), (g0, .inr (2, [.ref g1, .int ctB2, .ref g2, .ref g3])), (g1, .inl (D.1 100, 8, .inl cB2)), (g2, .inl (D.1 100, 8, .inl lB2)), (g3, .inl (D.1 100, 8, .inl mB2)), (v1, .inl (D.1 100, 41, .inl ta2))] : va_W)) := by
  refine Ct.ofG (by decide) (Nat.le_of_ble_eq_true rfl) ?_
  intro X hX
  have hX : CX X l D RX6 "cell" cX6_cell 4 (some .int) 11 259 0 0 := hX
  show G X (QM X 0 0 (fun (rv : Option Value) (ugh : Int32 × Int32 × Int32 × Int32 × Int32 × Int32 × Int32 × Int32 × Int32 × Int32 × (Nat → Int32) × (Nat → Int32) × (Nat → Int32) × (Nat → Int32) × (Nat → Int32) × (Nat → Int32) × (Nat → Int32)) => match ugh with | (sv2, cr2, cf2, pr2, jd2, kp2, ks2, kl2, ctA2, ctB2, cA2, lA2, mA2, cB2, lB2, mB2, ta2) => rv = (some (.int (cellV r i j what))) ∧ (sgP r u sv2 cA2 ctA2 cB2 ctB2)) (fun (ugh : Int32 × Int32 × Int32 × Int32 × Int32 × Int32 × Int32 × Int32 × Int32 × Int32 × (Nat → Int32) × (Nat → Int32) × (Nat → Int32) × (Nat → Int32) × (Nat → Int32) × (Nat → Int32) × (Nat → Int32)) => match ugh with | (sv2, cr2, cf2, pr2, jd2, kp2, ks2, kl2, ctA2, ctB2, cA2, lA2, mA2, cB2, lB2, mB2, ta2) => ([(z0, .inr (7, [.ref s0, .ref v0, .ref d0, .ref y0, .ref b0, .ref i0, .ref i1, .ref i2, .ref i3, .int sd])), (s0, .inr (6, [.int (r 0), .ref s1, .ref s2, .ref s3, .ref s4, .int (nI u)])), (s1, .inl (D.1 100, 16, .inl (sE r))), (s3, .inl (D.1 100, 5, .inl (sT r))), (s4, .inl (D.1 100, 64, .inl (sG r))), (v0, .inr (5, [.ref s0, .ref l0, .ref g0, .int sv2, .int cr2, .int cf2, .int pr2, .int jd2, .int kp2, .int ks2, .int kl2, .ref v1])), (l0, .inr (2, [.ref l1, .int ctA2, .ref l2, .ref l3])), (l1, .inl (D.1 100, 8, .inl cA2)), (l2, .inl (D.1 100, 8, .inl lA2)), (l3, .inl (D.1 100, 8, .inl mA2)), (g0, .inr (2, [.ref g1, .int ctB2, .ref g2, .ref g3])), (g1, .inl (D.1 100, 8, .inl cB2)), (g2, .inl (D.1 100, 8, .inl lB2)), (g3, .inl (D.1 100, 8, .inl mB2)), (v1, .inl (D.1 100, 41, .inl ta2))] : va_W))) [(z0, .inr (7, [.ref s0, .ref v0, .ref d0, .ref y0, .ref b0, .ref i0, .ref i1, .ref i2, .ref i3, .int sd])), (s0, .inr (6, [.int (r 0), .ref s1, .ref s2, .ref s3, .ref s4, .int (nI u)])), (s1, .inl (D.1 100, 16, .inl (sE r))), (s3, .inl (D.1 100, 5, .inl (sT r))), (s4, .inl (D.1 100, 64, .inl (sG r))), (v0, .inr (5, [.ref s0, .ref l0, .ref g0, .int sv, .int cr, .int cf, .int pr, .int jd, .int kp, .int ks, .int kl, .ref v1])), (l0, .inr (2, [.ref l1, .int ctA, .ref l2, .ref l3])), (l1, .inl (D.1 100, 8, .inl cA)), (l2, .inl (D.1 100, 8, .inl lA)), (l3, .inl (D.1 100, 8, .inl mA)), (g0, .inr (2, [.ref g1, .int ctB, .ref g2, .ref g3])), (g1, .inl (D.1 100, 8, .inl cB)), (g2, .inl (D.1 100, 8, .inl lB)), (g3, .inl (D.1 100, 8, .inl mB)), (v1, .inl (D.1 100, 41, .inl ta))] 0 0 0 [some (.ref z0), some (.int i), some (.int j), some (.int what)] []
  generalize hQ : QM X 0 0 (fun (rv : Option Value) (ugh : Int32 × Int32 × Int32 × Int32 × Int32 × Int32 × Int32 × Int32 × Int32 × Int32 × (Nat → Int32) × (Nat → Int32) × (Nat → Int32) × (Nat → Int32) × (Nat → Int32) × (Nat → Int32) × (Nat → Int32)) => match ugh with | (sv2, cr2, cf2, pr2, jd2, kp2, ks2, kl2, ctA2, ctB2, cA2, lA2, mA2, cB2, lB2, mB2, ta2) => rv = (some (.int (cellV r i j what))) ∧ (sgP r u sv2 cA2 ctA2 cB2 ctB2)) (fun (ugh : Int32 × Int32 × Int32 × Int32 × Int32 × Int32 × Int32 × Int32 × Int32 × Int32 × (Nat → Int32) × (Nat → Int32) × (Nat → Int32) × (Nat → Int32) × (Nat → Int32) × (Nat → Int32) × (Nat → Int32)) => match ugh with | (sv2, cr2, cf2, pr2, jd2, kp2, ks2, kl2, ctA2, ctB2, cA2, lA2, mA2, cB2, lB2, mB2, ta2) => ([(z0, .inr (7, [.ref s0, .ref v0, .ref d0, .ref y0, .ref b0, .ref i0, .ref i1, .ref i2, .ref i3, .int sd])), (s0, .inr (6, [.int (r 0), .ref s1, .ref s2, .ref s3, .ref s4, .int (nI u)])), (s1, .inl (D.1 100, 16, .inl (sE r))), (s3, .inl (D.1 100, 5, .inl (sT r))), (s4, .inl (D.1 100, 64, .inl (sG r))), (v0, .inr (5, [.ref s0, .ref l0, .ref g0, .int sv2, .int cr2, .int cf2, .int pr2, .int jd2, .int kp2, .int ks2, .int kl2, .ref v1])), (l0, .inr (2, [.ref l1, .int ctA2, .ref l2, .ref l3])), (l1, .inl (D.1 100, 8, .inl cA2)), (l2, .inl (D.1 100, 8, .inl lA2)), (l3, .inl (D.1 100, 8, .inl mA2)), (g0, .inr (2, [.ref g1, .int ctB2, .ref g2, .ref g3])), (g1, .inl (D.1 100, 8, .inl cB2)), (g2, .inl (D.1 100, 8, .inl lB2)), (g3, .inl (D.1 100, 8, .inl mB2)), (v1, .inl (D.1 100, 41, .inl ta2))] : va_W)) = Q
  have hm0 := clM_le r 0
  have hm1 := clM_le r 1
  refine g_aload_n hX dX6_cell_0 rfl ?_
  refine g_getf hX dX6_cell_1 fk_X6_21 0 rfl rfl ?_
  refine g_call hX dX6_cell_4 cw_X6_95 (ct_X4_settle  (by first | with_reducible assumption | assumption) hlk hsg.2) 5 5 [5, 1, 2, 3, 6, 7, 8, 9, 10, 11, 12, 13] rfl rfl rfl rfl (by decide) rfl (fun ⟨_, _, _, _⟩ => rfl) ⟨by decide, by decide⟩ (Nat.le_of_ble_eq_true rfl) ⟨Nat.le_refl _, Nat.le_refl _⟩ (fun vgh ugh hp => ?_)
  obtain ⟨lC4, mC4, lE4, mE4⟩ := ugh
  obtain ⟨rfl⟩ := hp
  show G X Q [(z0, .inr (7, [.ref s0, .ref v0, .ref d0, .ref y0, .ref b0, .ref i0, .ref i1, .ref i2, .ref i3, .int sd])), (s0, .inr (6, [.int (r 0), .ref s1, .ref s2, .ref s3, .ref s4, .int (nI u)])), (s1, .inl (D.1 100, 16, .inl (sE r))), (s3, .inl (D.1 100, 5, .inl (sT r))), (s4, .inl (D.1 100, 64, .inl (sG r))), (v0, .inr (5, [.ref s0, .ref l0, .ref g0, .int (nI u), .int cr, .int cf, .int pr, .int jd, .int kp, .int ks, .int kl, .ref v1])), (l0, .inr (2, [.ref l1, .int (nI (clM r 0)), .ref l2, .ref l3])), (l1, .inl (D.1 100, 8, .inl (clA r 0))), (l2, .inl (D.1 100, 8, .inl lC4)), (l3, .inl (D.1 100, 8, .inl mC4)), (g0, .inr (2, [.ref g1, .int (nI (clM r 1)), .ref g2, .ref g3])), (g1, .inl (D.1 100, 8, .inl (clA r 1))), (g2, .inl (D.1 100, 8, .inl lE4)), (g3, .inl (D.1 100, 8, .inl mE4)), (v1, .inl (D.1 100, 41, .inl ta))] 0 0 7 [some (.ref z0), some (.int i), some (.int j), some (.int what)] []
  refine g_iload_n hX dX6_cell_7 rfl ?_
  refine g_if_lt (tgt := 43) hX dX6_cell_8 (by decide) (fun h8 => ?_) (fun h8 => ?_)
  · skip
    refine g_ldc hX dX6_cell_43 kc_X6_138 ?_
    subst hQ
    exact g_zretU hX dX6_cell_45 (vp_nar_int _) ((nI u), cr, cf, pr, jd, kp, ks, kl, (nI (clM r 0)), (nI (clM r 1)), (clA r 0), lC4, mC4, (clA r 1), lE4, mE4, ta) (⟨iR (cellV_no (fun z => ng_lo h8 z.1.1)), sgP_set⟩) rfl (Nat.le_refl _) (Nat.le_refl _)
  · skip
    refine g_iload_n hX dX6_cell_11 rfl ?_
    refine g_aload_n hX dX6_cell_12 rfl ?_
    refine g_getf hX dX6_cell_13 fk_X6_21 0 rfl rfl ?_
    refine g_getf hX dX6_cell_16 fk_X6_110 5 rfl rfl ?_
    refine g_getf hX dX6_cell_19 fk_X6_105 10 rfl rfl ?_
    refine g_icmp_ge (tgt := 43) hX dX6_cell_22 (by decide) (fun h22 => ?_) (fun h22 => ?_)
    · skip
      refine g_ldc hX dX6_cell_43 kc_X6_138 ?_
      subst hQ
      exact g_zretU hX dX6_cell_45 (vp_nar_int _) ((nI u), cr, cf, pr, jd, kp, ks, kl, (nI (clM r 0)), (nI (clM r 1)), (clA r 0), lC4, mC4, (clA r 1), lE4, mE4, ta) (⟨iR (cellV_no (fun z => ng_hi (by omega) h22 z.1.2)), sgP_set⟩) rfl (Nat.le_refl _) (Nat.le_refl _)
    · skip
      refine g_iload_n hX dX6_cell_25 rfl ?_
      refine g_if_lt (tgt := 43) hX dX6_cell_26 (by decide) (fun h26 => ?_) (fun h26 => ?_)
      · skip
        refine g_ldc hX dX6_cell_43 kc_X6_138 ?_
        subst hQ
        exact g_zretU hX dX6_cell_45 (vp_nar_int _) ((nI u), cr, cf, pr, jd, kp, ks, kl, (nI (clM r 0)), (nI (clM r 1)), (clA r 0), lC4, mC4, (clA r 1), lE4, mE4, ta) (⟨iR (cellV_no (fun z => ng_lo h26 z.2.1)), sgP_set⟩) rfl (Nat.le_refl _) (Nat.le_refl _)
      · skip
        refine g_iload_n hX dX6_cell_29 rfl ?_
        refine g_aload_n hX dX6_cell_30 rfl ?_
        refine g_getf hX dX6_cell_31 fk_X6_21 0 rfl rfl ?_
        refine g_getf hX dX6_cell_34 fk_X6_101 5 rfl rfl ?_
        refine g_getf hX dX6_cell_37 fk_X6_105 6 rfl rfl ?_
        refine g_icmp_lt (tgt := 46) hX dX6_cell_40 (by decide) (fun h40 => ?_) (fun h40 => ?_)
        · skip
          obtain ⟨iQ, hiQ, eiQ⟩ := rng_ge (m := clM r 1) (by omega) h8 h22
          subst eiQ
          obtain ⟨jQ, hjQ, ejQ⟩ := rng_lt (m := clM r 0) (by omega) h26 h40
          subst ejQ
          have hp1 : 1 ≤ ptN r iQ jQ o := by obtain ⟨c9, d9, q1, q2, -, -, q3⟩ := cell_in hiQ hjQ; exact pt_pos hg ho ho2 (k := 8 * c9 + d9) (by omega) ((inC_cd q2).trans q3)
          refine g_aload_n hX dX6_cell_46 rfl ?_
          refine g_getf hX dX6_cell_47 fk_X6_21 0 rfl rfl ?_
          refine g_iload_n hX dX6_cell_50 rfl ?_
          refine g_iload_n hX dX6_cell_51 rfl ?_
          refine g_callFv (ws' := [(z0, .inr (7, [.ref s0, .ref v0, .ref d0, .ref y0, .ref b0, .ref i0, .ref i1, .ref i2, .ref i3, .int sd])), (s0, .inr (6, [.int (r 0), .ref s1, .ref s2, .ref s3, .ref s4, .int (nI u)])), (s1, .inl (D.1 100, 16, .inl (sE r))), (s3, .inl (D.1 100, 5, .inl (sT r))), (s4, .inl (D.1 100, 64, .inl (sG r))), (v0, .inr (5, [.ref s0, .ref l0, .ref g0, .int (nI u), .int (nI iQ), .int (nI jQ), .int (nI (prN r iQ jQ)), .int (nI (jdN r iQ jQ)), .int (nI (kpN r iQ jQ o 41)), .int (kSm r iQ jQ o 41), .int (kLs r iQ jQ o 41), .ref v1])), (l0, .inr (2, [.ref l1, .int (nI (clM r 0)), .ref l2, .ref l3])), (l1, .inl (D.1 100, 8, .inl (clA r 0))), (l2, .inl (D.1 100, 8, .inl lC4)), (l3, .inl (D.1 100, 8, .inl mC4)), (g0, .inr (2, [.ref g1, .int (nI (clM r 1)), .ref g2, .ref g3])), (g1, .inl (D.1 100, 8, .inl (clA r 1))), (g2, .inl (D.1 100, 8, .inl lE4)), (g3, .inl (D.1 100, 8, .inl mE4)), (v1, .inl (D.1 100, 41, .inl (tyA r iQ jQ 64)))]) hX dX6_cell_52 cw_X6_178 (ct_X4_survey  (by first | with_reducible assumption | assumption) (by first | with_reducible assumption | assumption) (by omega) (by omega) (by omega)) 5 5 [5, 1, 3, 4, 6, 7, 10, 11, 14] rfl rfl rfl rfl (by decide) rfl rfl ⟨by decide, by decide⟩ (Nat.le_of_ble_eq_true rfl) (Nat.le_refl _) (Nat.le_refl _) rfl ?_
          refine g_iload_n hX dX6_cell_55 rfl ?_
          by_cases hs56_0 : what = nI 0
          · subst hs56_0
            refine g_tswj (tgt := 96) hX dX6_cell_56 0 rfl (by decide) rfl (by decide) ?_
            refine g_aload_n hX dX6_cell_96 rfl ?_
            refine g_getf hX dX6_cell_97 fk_X6_21 0 rfl rfl ?_
            refine g_getf hX dX6_cell_100 fk_X6_182 5 rfl rfl ?_
            subst hQ
            exact g_zretU hX dX6_cell_103 (vp_nar_int _) ((nI u), (nI iQ), (nI jQ), (nI (prN r iQ jQ)), (nI (jdN r iQ jQ)), (nI (kpN r iQ jQ o 41)), (kSm r iQ jQ o 41), (kLs r iQ jQ o 41), (nI (clM r 0)), (nI (clM r 1)), (clA r 0), lC4, mC4, (clA r 1), lE4, mE4, (tyA r iQ jQ 64)) (⟨iR ((cellV_n hiQ hjQ (k := 0) (by decide)).trans (prC_n r (cq r) (nI iQ) (nI jQ) 64)), sgP_set⟩) rfl (Nat.le_refl _) (Nat.le_refl _)
          by_cases hs56_1 : what = nI 1
          · subst hs56_1
            refine g_tswj (tgt := 104) hX dX6_cell_56 1 rfl (by decide) rfl (by decide) ?_
            refine g_aload_n hX dX6_cell_104 rfl ?_
            refine g_getf hX dX6_cell_105 fk_X6_21 0 rfl rfl ?_
            refine g_getf hX dX6_cell_108 fk_X6_185 5 rfl rfl ?_
            subst hQ
            exact g_zretU hX dX6_cell_111 (vp_nar_int _) ((nI u), (nI iQ), (nI jQ), (nI (prN r iQ jQ)), (nI (jdN r iQ jQ)), (nI (kpN r iQ jQ o 41)), (kSm r iQ jQ o 41), (kLs r iQ jQ o 41), (nI (clM r 0)), (nI (clM r 1)), (clA r 0), lC4, mC4, (clA r 1), lE4, mE4, (tyA r iQ jQ 64)) (⟨iR ((cellV_n hiQ hjQ (k := 1) (by decide)).trans (cell_jd hg)), sgP_set⟩) rfl (Nat.le_refl _) (Nat.le_refl _)
          by_cases hs56_2 : what = nI 2
          · subst hs56_2
            refine g_tswj (tgt := 112) hX dX6_cell_56 2 rfl (by decide) rfl (by decide) ?_
            refine g_aload_n hX dX6_cell_112 rfl ?_
            refine g_getf hX dX6_cell_113 fk_X6_21 0 rfl rfl ?_
            refine g_getf hX dX6_cell_116 fk_X6_188 5 rfl rfl ?_
            subst hQ
            exact g_zretU hX dX6_cell_119 (vp_nar_int _) ((nI u), (nI iQ), (nI jQ), (nI (prN r iQ jQ)), (nI (jdN r iQ jQ)), (nI (kpN r iQ jQ o 41)), (kSm r iQ jQ o 41), (kLs r iQ jQ o 41), (nI (clM r 0)), (nI (clM r 1)), (clA r 0), lC4, mC4, (clA r 1), lE4, mE4, (tyA r iQ jQ 64)) (⟨iR ((cellV_n hiQ hjQ (k := 2) (by decide)).trans (kept_c hg ho ho2)), sgP_set⟩) rfl (Nat.le_refl _) (Nat.le_refl _)
          by_cases hs56_3 : what = nI 3
          · subst hs56_3
            refine g_tswj (tgt := 120) hX dX6_cell_56 3 rfl (by decide) rfl (by decide) ?_
            refine g_aload_n hX dX6_cell_120 rfl ?_
            refine g_getf hX dX6_cell_121 fk_X6_21 0 rfl rfl ?_
            refine g_callRi hX dX6_cell_124 cw_X6_191 (ct_X4_gapOfCell  (by first | with_reducible assumption | assumption) (by first | with_reducible assumption | assumption) (by first | with_reducible assumption | assumption) (by omega) (by first | with_reducible assumption | assumption) (by omega) (by omega) (by omega) (by omega)) 5 5 [5, 1, 2, 3, 6, 7, 10, 11] rfl rfl rfl rfl (by decide) rfl ⟨by decide, by decide⟩ (Nat.le_of_ble_eq_true rfl) (Nat.le_refl _) (Nat.le_refl _) ?_
            refine g_bipush hX dX6_cell_127 kn_b_100 ?_
            refine g_iadd hX dX6_cell_129 ?_
            subst hQ
            exact g_zretU hX dX6_cell_130 (vp_nar_int _) ((nI u), (nI iQ), (nI jQ), (nI (prN r iQ jQ)), (nI (jdN r iQ jQ)), (nI (kpN r iQ jQ o 41)), (kSm r iQ jQ o 41), (kLs r iQ jQ o 41), (nI (clM r 0)), (nI (clM r 1)), (clA r 0), lC4, mC4, (clA r 1), lE4, mE4, (tyA r iQ jQ 64)) (⟨iR ((cellV_n hiQ hjQ (k := 3) (by decide)).trans sub_add100.symm), sgP_set⟩) rfl (Nat.le_refl _) (Nat.le_refl _)
          by_cases hs56_4 : what = nI 4
          · subst hs56_4
            refine g_tswj (tgt := 131) hX dX6_cell_56 4 rfl (by decide) rfl (by decide) ?_
            refine g_aload_n hX dX6_cell_131 rfl ?_
            refine g_getf hX dX6_cell_132 fk_X6_21 0 rfl rfl ?_
            refine g_callRi hX dX6_cell_135 cw_X6_194 (ct_X4_meanAbove  (by first | with_reducible assumption | assumption) (by first | with_reducible assumption | assumption) (by first | with_reducible assumption | assumption) (by omega) (by first | with_reducible assumption | assumption) (by omega) (by omega) (by omega) (by omega)) 5 5 [5, 1, 2, 3, 6, 7, 10, 11] rfl rfl rfl rfl (by decide) rfl ⟨by decide, by decide⟩ (Nat.le_of_ble_eq_true rfl) (Nat.le_refl _) (Nat.le_refl _) ?_
            subst hQ
            exact g_zretU hX dX6_cell_138 (vp_nar_int _) ((nI u), (nI iQ), (nI jQ), (nI (prN r iQ jQ)), (nI (jdN r iQ jQ)), (nI (kpN r iQ jQ o 41)), (kSm r iQ jQ o 41), (kLs r iQ jQ o 41), (nI (clM r 0)), (nI (clM r 1)), (clA r 0), lC4, mC4, (clA r 1), lE4, mE4, (tyA r iQ jQ 64)) (⟨iR ((cellV_n hiQ hjQ (k := 4) (by decide)).trans (by show nI _ = nI _; rw [bel_pt hg ho ho2])), sgP_set⟩) rfl (Nat.le_refl _) (Nat.le_refl _)
          by_cases hs56_5 : what = nI 5
          · subst hs56_5
            refine g_tswj (tgt := 139) hX dX6_cell_56 5 rfl (by decide) rfl (by decide) ?_
            refine g_aload_n hX dX6_cell_139 rfl ?_
            refine g_getf hX dX6_cell_140 fk_X6_21 0 rfl rfl ?_
            refine g_callRi hX dX6_cell_143 cw_X6_197 (ct_X4_meanBelow  (by first | with_reducible assumption | assumption) (by first | with_reducible assumption | assumption) (by first | with_reducible assumption | assumption) (by omega) (by first | with_reducible assumption | assumption) (by omega) (by omega) (by omega) (by omega)) 5 5 [5, 1, 2, 3, 6, 7, 10, 11] rfl rfl rfl rfl (by decide) rfl ⟨by decide, by decide⟩ (Nat.le_of_ble_eq_true rfl) (Nat.le_refl _) (Nat.le_refl _) ?_
            subst hQ
            exact g_zretU hX dX6_cell_146 (vp_nar_int _) ((nI u), (nI iQ), (nI jQ), (nI (prN r iQ jQ)), (nI (jdN r iQ jQ)), (nI (kpN r iQ jQ o 41)), (kSm r iQ jQ o 41), (kLs r iQ jQ o 41), (nI (clM r 0)), (nI (clM r 1)), (clA r 0), lC4, mC4, (clA r 1), lE4, mE4, (tyA r iQ jQ 64)) (⟨iR ((cellV_n hiQ hjQ (k := 5) (by decide)).trans (by show nI _ = nI _; rw [bel_pt hg ho ho2])), sgP_set⟩) rfl (Nat.le_refl _) (Nat.le_refl _)
          have hsw56 : what.toInt < 0 ∨ 5 < what.toInt := sw_out (lo := 0) (n := 6) (by decide) (fun j hj => match j, hj with | 0, _ => hs56_0 | 1, _ => hs56_1 | 2, _ => hs56_2 | 3, _ => hs56_3 | 4, _ => hs56_4 | 5, _ => hs56_5 | j + 6, hj => absurd hj (by omega))
          refine g_tswo (tgt := 147) hX dX6_cell_56 hsw56 (by decide) ?_
          refine g_ldc hX dX6_cell_147 kc_X6_65 ?_
          subst hQ
          exact g_zretU hX dX6_cell_149 (vp_nar_int _) ((nI u), (nI iQ), (nI jQ), (nI (prN r iQ jQ)), (nI (jdN r iQ jQ)), (nI (kpN r iQ jQ o 41)), (kSm r iQ jQ o 41), (kLs r iQ jQ o 41), (nI (clM r 0)), (nI (clM r 1)), (clA r 0), lC4, mC4, (clA r 1), lE4, mE4, (tyA r iQ jQ 64)) (⟨iR (cellV_o hiQ hjQ hsw56), sgP_set⟩) rfl (Nat.le_refl _) (Nat.le_refl _)
        · skip
          refine g_ldc hX dX6_cell_43 kc_X6_138 ?_
          subst hQ
          exact g_zretU hX dX6_cell_45 (vp_nar_int _) ((nI u), cr, cf, pr, jd, kp, ks, kl, (nI (clM r 0)), (nI (clM r 1)), (clA r 0), lC4, mC4, (clA r 1), lE4, mE4, ta) (⟨iR (cellV_no (fun z => ng_nl (by omega) h40 z.2.2)), sgP_set⟩) rfl (Nat.le_refl _) (Nat.le_refl _)
set_option maxRecDepth 100000 in
set_option maxHeartbeats 4000000 in
theorem ct_X0_firstWrong {l : Launch} {D : va_G} {v0 v1 s0 s1 s2 s3 s4 l0 l1 l2 l3 g0 g1 g2 g3 : Nat} {r : Nat → Int32} {vn sv : Int32} {cr cf pr jd kp ks kl : Int32} {o : Nat} {ta : Nat → Int32} {b0 b1 b2 b3 wr : Nat} {bo bt bs : Nat → Int32} (hw : okW r) (hg : okG r) (ho : r 2 = nI o) (ho2 : o ≤ 20) (hD : okD r) (hcap : 0 ≤ r 3) (hwr : wr ≤ 20) : Ct (S := Int32 × Int32 × Int32 × Int32 × Int32 × Int32 × Int32 × (Nat → Int32)) l D yX0_firstWrong cX0_firstWrong 4 (some .int) 6 155 0 0 [.ref b0, .ref s0, .ref v0] [(b0, .inr (1, [.ref b1, .ref b2, .ref b3, .int (nI wr)])), (b1, .inl (D.1 100, 20, .inl bo)), (b2, .inl (D.1 100, 20, .inl bt)), (b3, .inl (D.1 100, 20, .inl bs)), (s0, .inr (6, [.int (r 0), .ref s1, .ref s2, .ref s3, .ref s4, .int vn])), (s1, .inl (D.1 100, 16, .inl (sE r))), (s3, .inl (D.1 100, 5, .inl (sT r))), (s4, .inl (D.1 100, 64, .inl (sG r))), (v0, .inr (5, [.ref s0, .ref l0, .ref g0, .int sv, .int cr, .int cf, .int pr, .int jd, .int kp, .int ks, .int kl, .ref v1])), (l0, .inr (2, [.ref l1, .int (nI (clM r 0)), .ref l2, .ref l3])), (l1, .inl (D.1 100, 8, .inl (clA r 0))), (g0, .inr (2, [.ref g1, .int (nI (clM r 1)), .ref g2, .ref g3])), (g1, .inl (D.1 100, 8, .inl (clA r 1))), (v1, .inl (D.1 100, 41, .inl ta))] (fun (rv : Option Value) (ugh : Int32 × Int32 × Int32 × Int32 × Int32 × Int32 × Int32 × (Nat → Int32)) => match ugh with | (cr2, cf2, pr2, jd2, kp2, ks2, kl2, ta2) => rv = (some (.int (oI (wrongO r bo bt bs wr))))) (fun (ugh : Int32 × Int32 × Int32 × Int32 × Int32 × Int32 × Int32 × (Nat → Int32)) => match ugh with | (cr2, cf2, pr2, jd2, kp2, ks2, kl2, ta2) => ([(b0, .inr (1, [.ref b1, .ref b2, .ref b3, .int (nI wr)])), (b1, .inl (D.1 100, 20, .inl bo)), (b2, .inl (D.1 100, 20, .inl bt)), (b3, .inl (D.1 100, 20, .inl bs)), (s0, .inr (6, [.int (r 0), .ref s1, .ref s2, .ref s3, .ref s4, .int vn])), (s1, .inl (D.1 100, 16, .inl (sE r))), (s3, .inl (D.1 100, 5, .inl (sT r))), (s4, .inl (D.1 100, 64, .inl (sG r))), (v0, .inr (5, [.ref s0, .ref l0, .ref g0, .int sv, .int cr2, .int cf2, .int pr2, .int jd2, .int kp2, .int ks2, .int kl2, .ref v1])), (l0, .inr (2, [.ref l1, .int (nI (clM r 0)), .ref l2, .ref l3])), (l1, .inl (D.1 100, 8, .inl (clA r 0))), (g0, .inr (2, [.ref g1, .int (nI (clM r 1)), .ref g2, .ref g3])), (g1, .inl (D.1 100, 8, .inl (clA r 1))), (v1, .inl (D.1 100, 41, .inl ta2))] : va_W)) := by
  refine Ct.ofG (by decide) (Nat.le_of_ble_eq_true rfl) ?_
  intro X hX
  have hX : CX X l D RX0 "firstWrong" cX0_firstWrong 4 (some .int) 6 155 0 0 := hX
  show G X (QM X 0 0 (fun (rv : Option Value) (ugh : Int32 × Int32 × Int32 × Int32 × Int32 × Int32 × Int32 × (Nat → Int32)) => match ugh with | (cr2, cf2, pr2, jd2, kp2, ks2, kl2, ta2) => rv = (some (.int (oI (wrongO r bo bt bs wr))))) (fun (ugh : Int32 × Int32 × Int32 × Int32 × Int32 × Int32 × Int32 × (Nat → Int32)) => match ugh with | (cr2, cf2, pr2, jd2, kp2, ks2, kl2, ta2) => ([(b0, .inr (1, [.ref b1, .ref b2, .ref b3, .int (nI wr)])), (b1, .inl (D.1 100, 20, .inl bo)), (b2, .inl (D.1 100, 20, .inl bt)), (b3, .inl (D.1 100, 20, .inl bs)), (s0, .inr (6, [.int (r 0), .ref s1, .ref s2, .ref s3, .ref s4, .int vn])), (s1, .inl (D.1 100, 16, .inl (sE r))), (s3, .inl (D.1 100, 5, .inl (sT r))), (s4, .inl (D.1 100, 64, .inl (sG r))), (v0, .inr (5, [.ref s0, .ref l0, .ref g0, .int sv, .int cr2, .int cf2, .int pr2, .int jd2, .int kp2, .int ks2, .int kl2, .ref v1])), (l0, .inr (2, [.ref l1, .int (nI (clM r 0)), .ref l2, .ref l3])), (l1, .inl (D.1 100, 8, .inl (clA r 0))), (g0, .inr (2, [.ref g1, .int (nI (clM r 1)), .ref g2, .ref g3])), (g1, .inl (D.1 100, 8, .inl (clA r 1))), (v1, .inl (D.1 100, 41, .inl ta2))] : va_W))) [(b0, .inr (1, [.ref b1, .ref b2, .ref b3, .int (nI wr)])), (b1, .inl (D.1 100, 20, .inl bo)), (b2, .inl (D.1 100, 20, .inl bt)), (b3, .inl (D.1 100, 20, .inl bs)), (s0, .inr (6, [.int (r 0), .ref s1, .ref s2, .ref s3, .ref s4, .int vn])), (s1, .inl (D.1 100, 16, .inl (sE r))), (s3, .inl (D.1 100, 5, .inl (sT r))), (s4, .inl (D.1 100, 64, .inl (sG r))), (v0, .inr (5, [.ref s0, .ref l0, .ref g0, .int sv, .int cr, .int cf, .int pr, .int jd, .int kp, .int ks, .int kl, .ref v1])), (l0, .inr (2, [.ref l1, .int (nI (clM r 0)), .ref l2, .ref l3])), (l1, .inl (D.1 100, 8, .inl (clA r 0))), (g0, .inr (2, [.ref g1, .int (nI (clM r 1)), .ref g2, .ref g3])), (g1, .inl (D.1 100, 8, .inl (clA r 1))), (v1, .inl (D.1 100, 41, .inl ta))] 0 0 0 [some (.ref b0), some (.ref s0), some (.ref v0), none] []
  generalize hQ : QM X 0 0 (fun (rv : Option Value) (ugh : Int32 × Int32 × Int32 × Int32 × Int32 × Int32 × Int32 × (Nat → Int32)) => match ugh with | (cr2, cf2, pr2, jd2, kp2, ks2, kl2, ta2) => rv = (some (.int (oI (wrongO r bo bt bs wr))))) (fun (ugh : Int32 × Int32 × Int32 × Int32 × Int32 × Int32 × Int32 × (Nat → Int32)) => match ugh with | (cr2, cf2, pr2, jd2, kp2, ks2, kl2, ta2) => ([(b0, .inr (1, [.ref b1, .ref b2, .ref b3, .int (nI wr)])), (b1, .inl (D.1 100, 20, .inl bo)), (b2, .inl (D.1 100, 20, .inl bt)), (b3, .inl (D.1 100, 20, .inl bs)), (s0, .inr (6, [.int (r 0), .ref s1, .ref s2, .ref s3, .ref s4, .int vn])), (s1, .inl (D.1 100, 16, .inl (sE r))), (s3, .inl (D.1 100, 5, .inl (sT r))), (s4, .inl (D.1 100, 64, .inl (sG r))), (v0, .inr (5, [.ref s0, .ref l0, .ref g0, .int sv, .int cr2, .int cf2, .int pr2, .int jd2, .int kp2, .int ks2, .int kl2, .ref v1])), (l0, .inr (2, [.ref l1, .int (nI (clM r 0)), .ref l2, .ref l3])), (l1, .inl (D.1 100, 8, .inl (clA r 0))), (g0, .inr (2, [.ref g1, .int (nI (clM r 1)), .ref g2, .ref g3])), (g1, .inl (D.1 100, 8, .inl (clA r 1))), (v1, .inl (D.1 100, 41, .inl ta2))] : va_W)) = Q
  refine g_iconst hX dX0_firstWrong_0 kn_i_0 ?_
  refine g_istore_n (L' := [some (.ref b0), some (.ref s0), some (.ref v0), some (.int (nI 0))]) hX dX0_firstWrong_1 (by decide) rfl ?_
  have loop2 : ∀ z : Nat × Int32 × Int32 × Int32 × Int32 × Int32 × Int32 × Int32 × (Nat → Int32), match z with | (k, x4, x5, x6, x7, x8, x9, x10, xt) => (k ≤ wr) → (fnd (fun k => wrB r (bo k) (bt k) (bs k)) wr 0 = fnd (fun k => wrB r (bo k) (bt k) (bs k)) (wr - k) k) → G X Q [(b0, .inr (1, [.ref b1, .ref b2, .ref b3, .int (nI wr)])), (b1, .inl (D.1 100, 20, .inl bo)), (b2, .inl (D.1 100, 20, .inl bt)), (b3, .inl (D.1 100, 20, .inl bs)), (s0, .inr (6, [.int (r 0), .ref s1, .ref s2, .ref s3, .ref s4, .int vn])), (s1, .inl (D.1 100, 16, .inl (sE r))), (s3, .inl (D.1 100, 5, .inl (sT r))), (s4, .inl (D.1 100, 64, .inl (sG r))), (v0, .inr (5, [.ref s0, .ref l0, .ref g0, .int sv, .int x4, .int x5, .int x6, .int x7, .int x8, .int x9, .int x10, .ref v1])), (l0, .inr (2, [.ref l1, .int (nI (clM r 0)), .ref l2, .ref l3])), (l1, .inl (D.1 100, 8, .inl (clA r 0))), (g0, .inr (2, [.ref g1, .int (nI (clM r 1)), .ref g2, .ref g3])), (g1, .inl (D.1 100, 8, .inl (clA r 1))), (v1, .inl (D.1 100, 41, .inl xt))] 0 0 2 [some (.ref b0), some (.ref s0), some (.ref v0), some (.int (nI k))] [] := by
    refine loopM (fun z : Nat × Int32 × Int32 × Int32 × Int32 × Int32 × Int32 × Int32 × (Nat → Int32) => match z with | (k, x4, x5, x6, x7, x8, x9, x10, xt) => wr - k) (fun z ih2 => ?_)
    obtain ⟨k, x4, x5, x6, x7, x8, x9, x10, xt⟩ := z
    intro hkN hr
    refine g_iload_n hX dX0_firstWrong_2 rfl ?_
    refine g_aload_n hX dX0_firstWrong_3 rfl ?_
    refine g_getf hX dX0_firstWrong_4 fk_X0_21 0 rfl rfl ?_
    refine g_icmpN_ge (tgt := 62) hX dX0_firstWrong_7 (by decide) (by omega) (by omega) (fun h7 => ?_) (fun h7 => ?_)
    · skip
      refine g_iconst hX dX0_firstWrong_62 kn_i_m1 ?_
      subst hQ
      exact g_zretU hX dX0_firstWrong_63 (vp_nar_int _) (x4, x5, x6, x7, x8, x9, x10, xt) (iR (by unfold wrongO; rw [hr, fnd_e (by omega)]; rfl)) rfl (Nat.le_refl _) (Nat.le_refl _)
    · skip
      refine g_aload_n hX dX0_firstWrong_10 rfl ?_
      refine g_aload_n hX dX0_firstWrong_11 rfl ?_
      refine g_getf hX dX0_firstWrong_12 fk_X0_9 0 rfl rfl ?_
      refine g_iload_n hX dX0_firstWrong_15 rfl ?_
      refine g_iald hX dX0_firstWrong_16 1 rfl (by decide) (by omega) ?_
      refine g_aload_n hX dX0_firstWrong_17 rfl ?_
      refine g_getf hX dX0_firstWrong_18 fk_X0_15 0 rfl rfl ?_
      refine g_iload_n hX dX0_firstWrong_21 rfl ?_
      refine g_iald hX dX0_firstWrong_22 2 rfl (by decide) (by omega) ?_
      refine g_callRi hX dX0_firstWrong_23 cw_X0_25 ct_X5_knowsBoth 4 6 [4] rfl rfl rfl rfl (by decide) rfl ⟨by decide, by decide⟩ (Nat.le_of_ble_eq_true rfl) (Nat.le_refl _) (Nat.le_refl _) ?_
      refine g_ifb_eq (tgt := 54) hX dX0_firstWrong_26 (by decide) (fun h26 => ?_) (fun h26 => ?_)
      · skip
        refine g_iload_n hX dX0_firstWrong_54 rfl ?_
        subst hQ
        exact g_zretU hX dX0_firstWrong_55 (vp_nar_int _) (x4, x5, x6, x7, x8, x9, x10, xt) (iR (by unfold wrongO; rw [hr, fnd_y (by omega) (wrB_k h26)]; rfl)) rfl (Nat.le_refl _) (Nat.le_refl _)
      · skip
        obtain ⟨kk1, kk2⟩ := (Bool.and_eq_true _ _).mp h26
        obtain ⟨c1, hc1, ec1, kc1⟩ := isKn_in kk1
        obtain ⟨d1, hd1, ed1, kd1⟩ := isKn_in kk2
        refine g_aload_n hX dX0_firstWrong_29 rfl ?_
        refine g_aload_n hX dX0_firstWrong_30 rfl ?_
        refine g_getf hX dX0_firstWrong_31 fk_X0_9 0 rfl rfl ?_
        refine g_iload_n hX dX0_firstWrong_34 rfl ?_
        refine g_iald hX dX0_firstWrong_35 1 rfl (by decide) (by omega) ?_
        refine g_top (v' := nI c1) (ec1) ?_
        refine g_aload_n hX dX0_firstWrong_36 rfl ?_
        refine g_getf hX dX0_firstWrong_37 fk_X0_15 0 rfl rfl ?_
        refine g_iload_n hX dX0_firstWrong_40 rfl ?_
        refine g_iald hX dX0_firstWrong_41 2 rfl (by decide) (by omega) ?_
        refine g_top (v' := nI d1) (ed1) ?_
        refine g_call hX dX0_firstWrong_42 cw_X0_31 (ct_X4_gapOfPair  (by first | with_reducible assumption | assumption) (by first | with_reducible assumption | assumption) (by first | with_reducible assumption | assumption) (by omega) (by first | with_reducible assumption | assumption) (by omega) (by omega) (by omega) (by first | with_reducible assumption | assumption) (by first | with_reducible assumption | assumption)) 8 5 [8, 4, 5, 6, 7, 9, 10, 11, 12, 13] rfl rfl rfl rfl (by decide) rfl (fun ⟨_, _, _, _, _, _, _, _⟩ => rfl) ⟨by decide, by decide⟩ (Nat.le_of_ble_eq_true rfl) ⟨Nat.le_refl _, Nat.le_refl _⟩ (fun vgh ugh hp => ?_)
        obtain ⟨cr242, cf242, pr242, jd242, kp242, ks242, kl242, ta242⟩ := ugh
        obtain ⟨rfl⟩ := hp
        show G X Q [(b0, .inr (1, [.ref b1, .ref b2, .ref b3, .int (nI wr)])), (b1, .inl (D.1 100, 20, .inl bo)), (b2, .inl (D.1 100, 20, .inl bt)), (b3, .inl (D.1 100, 20, .inl bs)), (s0, .inr (6, [.int (r 0), .ref s1, .ref s2, .ref s3, .ref s4, .int vn])), (s1, .inl (D.1 100, 16, .inl (sE r))), (s3, .inl (D.1 100, 5, .inl (sT r))), (s4, .inl (D.1 100, 64, .inl (sG r))), (v0, .inr (5, [.ref s0, .ref l0, .ref g0, .int sv, .int cr242, .int cf242, .int pr242, .int jd242, .int kp242, .int ks242, .int kl242, .ref v1])), (l0, .inr (2, [.ref l1, .int (nI (clM r 0)), .ref l2, .ref l3])), (l1, .inl (D.1 100, 8, .inl (clA r 0))), (g0, .inr (2, [.ref g1, .int (nI (clM r 1)), .ref g2, .ref g3])), (g1, .inl (D.1 100, 8, .inl (clA r 1))), (v1, .inl (D.1 100, 41, .inl ta242))] 0 0 45 [some (.ref b0), some (.ref s0), some (.ref v0), some (.int (nI k))] [.int (gapOf r (cq r) c1 d1 - nI 100)]
        refine g_aload_n hX dX0_firstWrong_45 rfl ?_
        refine g_getf hX dX0_firstWrong_46 fk_X0_18 0 rfl rfl ?_
        refine g_iload_n hX dX0_firstWrong_49 rfl ?_
        refine g_iald hX dX0_firstWrong_50 3 rfl (by decide) (by omega) ?_
        refine g_icmp_eq (tgt := 56) hX dX0_firstWrong_51 (by decide) (fun h51 => ?_) (fun h51 => ?_)
        · skip
          refine g_iincN (L' := [some (.ref b0), some (.ref s0), some (.ref v0), some (.int (nI (k + 1)))]) hX dX0_firstWrong_56 rfl (by decide) rfl ?_
          refine g_goto (tgt := 2) hX dX0_firstWrong_59 (by decide) ?_
          exact g_fin (ih2 (k + 1, cr242, cf242, pr242, jd242, kp242, ks242, kl242, ta242) (by show wr - (k + 1) < wr - k; omega) (by omega) (hr.trans (fnd_n (by omega) ((wrB_e (q := cq r) (fun _ _ => rfl) hc1 hd1 kc1 kd1 ec1 ed1).trans (by rw [decide_eq_true h51]; rfl))))) (rfl) rfl ⟨rfl, rfl, rfl, rfl, trivial⟩
        · skip
          refine g_iload_n hX dX0_firstWrong_54 rfl ?_
          subst hQ
          exact g_zretU hX dX0_firstWrong_55 (vp_nar_int _) (cr242, cf242, pr242, jd242, kp242, ks242, kl242, ta242) (iR (by unfold wrongO; rw [hr, fnd_y (by omega) ((wrB_e (q := cq r) (fun _ _ => rfl) hc1 hd1 kc1 kd1 ec1 ed1).trans (by rw [decide_eq_false h51]; rfl))]; rfl)) rfl (Nat.le_refl _) (Nat.le_refl _)
  exact g_fin (loop2 (0, cr, cf, pr, jd, kp, ks, kl, ta) (by omega) rfl) (rfl) rfl ⟨rfl, rfl, rfl, rfl, trivial⟩
