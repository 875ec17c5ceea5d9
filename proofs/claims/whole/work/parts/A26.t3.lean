set_option maxRecDepth 100000 in
set_option maxHeartbeats 4000000 in
theorem ct_X6_told {l : Launch} {D : va_G} {z0 s0 s1 s2 s3 s4 v0 v1 l0 l1 l2 l3 g0 g1 g2 g3 d0 d1 e0 y0 y1 b0 b1 b2 b3 i0 i1 i2 i3 u o : Nat} {r cA lA mA cB lB mB ta : Nat → Int32} {sv ctA ctB cr cf pr jd kp ks kl sd : Int32} {wr sz fi pc : Nat} {bo bt bs : Nat → Int32} {nx cl fn fa : Int32} {what : Int32} (hw : okW r) (hg : okG r) (ho : r 2 = nI o) (ho2 : o ≤ 20) (hD : okD r) (hcap : 0 ≤ r 3) (hlk : 0 ≤ r 1) (hsg : sgP r u sv cA ctA cB ctB) (hwr : wr ≤ 20) : Ct (S := Int32 × Int32 × Int32 × Int32 × Int32 × Int32 × Int32 × Int32 × Int32 × Int32 × (Nat → Int32) × (Nat → Int32) × (Nat → Int32) × (Nat → Int32) × (Nat → Int32) × (Nat → Int32) × (Nat → Int32)) l D yX6_told cX6_told 2 (some .int) 11 259 0 0 [.ref z0, .int what] [(z0, .inr (7, [.ref s0, .ref v0, .ref d0, .ref y0, .ref b0, .ref i0, .ref i1, .ref i2, .ref i3, .int sd])), (s0, .inr (6, [.int (r 0), .ref s1, .ref s2, .ref s3, .ref s4, .int (nI u)])), (s1, .inl (D.1 100, 16, .inl (sE r))), (s3, .inl (D.1 100, 5, .inl (sT r))), (s4, .inl (D.1 100, 64, .inl (sG r))), (v0, .inr (5, [.ref s0, .ref l0, .ref g0, .int sv, .int cr, .int cf, .int pr, .int jd, .int kp, .int ks, .int kl, .ref v1])), (l0, .inr (2, [.ref l1, .int ctA, .ref l2, .ref l3])), (l1, .inl (D.1 100, 8, .inl cA)), (l2, .inl (D.1 100, 8, .inl lA)), (l3, .inl (D.1 100, 8, .inl mA)), (g0, .inr (2, [.ref g1, .int ctB, .ref g2, .ref g3])), (g1, .inl (D.1 100, 8, .inl cB)), (g2, .inl (D.1 100, 8, .inl lB)), (g3, .inl (D.1 100, 8, .inl mB)), (v1, .inl (D.1 100, 41, .inl ta)), (b0, .inr (1, [.ref b1, .ref b2, .ref b3, .int (nI wr)])), (b1, .inl (D.1 100, 20, .inl bo)), (b2, .inl (D.1 100, 20, .inl bt)), (b3, .inl (D.1 100, 20, .inl bs)), (d0, .inr (4, [.ref d1, .int (nI sz), .int nx, .int cl, .int fn, .int fa, .ref e0])), (y0, .inr (3, [.ref y1, .int (nI fi), .int (nI pc)]))] (fun (rv : Option Value) (ugh : Int32 × Int32 × Int32 × Int32 × Int32 × Int32 × Int32 × Int32 × Int32 × Int32 × (Nat → Int32) × (Nat → Int32) × (Nat → Int32) × (Nat → Int32) × (Nat → Int32) × (Nat → Int32) × (Nat → Int32)) => match ugh with | (sv2, cr2, cf2, pr2, jd2, kp2, ks2, kl2, ctA2, ctB2, cA2, lA2, mA2, cB2, lB2, mB2, ta2) => rv = (some (.int (toldV r bo bt bs pc sz wr sd what))) ∧ (sgP r u sv2 cA2 ctA2 cB2 ctB2)) (fun (ugh : Int32 × Int32 × Int32 × Int32 × Int32 × Int32 × Int32 × Int32 × Int32 × Int32 × (Nat → Int32) × (Nat → Int32) × (Nat → Int32) × (Nat → Int32) × (Nat → Int32) × (Nat → Int32) × (Nat → Int32)) => match ugh with | (sv2, cr2, cf2, pr2, jd2, kp2, ks2, kl2, ctA2, ctB2, cA2, lA2, mA2, cB2, lB2, mB2, ta2) => ([(z0, .inr (7, [.ref s0, .ref v0, .ref d0, .ref y0, .ref b0, .ref i0, .ref i1, .ref i2, .ref i3, .int sd])), (s0, .inr (6, [.int (r 0), .ref s1, .ref s2, .ref s3, .ref s4, .int (nI u)])), (s1, .inl (D.1 100, 16, .inl (sE r))), (s3, .inl (D.1 100, 5, .inl (sT r))), (s4, .inl (D.1 100, 64, .inl (sG r))), (v0, .inr (5, [.ref s0, .ref l0, .ref g0, .int sv2, .int cr2, .int cf2, .int pr2, .int jd2, .int kp2, .int ks2, .int kl2, .ref v1])), (l0, .inr (2, [.ref l1, .int ctA2, .ref l2, .ref l3])), (l1, .inl (D.1 100, 8, .inl cA2)), (l2, .inl (D.1 100, 8, .inl lA2)), (l3, .inl (D.1 100, 8, .inl mA2)), (g0, .inr (2, [.ref g1, .int ctB2, .ref g2, .ref g3])), (g1, .inl (D.1 100, 8, .inl cB2)), (g2, .inl (D.1 100, 8, .inl lB2)), (g3, .inl (D.1 100, 8, .inl mB2)), (v1, .inl (D.1 100, 41, .inl ta2)), (b0, .inr (1, [.ref b1, .ref b2, .ref b3, .int (nI wr)])), (b1, .inl (D.1 100, 20, .inl bo)), (b2, .inl (D.1 100, 20, .inl bt)), (b3, .inl (D.1 100, 20, .inl bs)), (d0, .inr (4, [.ref d1, .int (nI sz), .int nx, .int cl, .int fn, .int fa, .ref e0])), (y0, .inr (3, [.ref y1, .int (nI fi), .int (nI pc)]))] : va_W)) := by
  refine Ct.ofG (by decide) (Nat.le_of_ble_eq_true rfl) ?_
  intro X hX
  have hX : CX X l D RX6 "told" cX6_told 2 (some .int) 11 259 0 0 := hX
  show G X (QM X 0 0 (fun (rv : Option Value) (ugh : Int32 × Int32 × Int32 × Int32 × Int32 × Int32 × Int32 × Int32 × Int32 × Int32 × (Nat → Int32) × (Nat → Int32) × (Nat → Int32) × (Nat → Int32) × (Nat → Int32) × (Nat → Int32) × (Nat → Int32)) => match ugh with | (sv2, cr2, cf2, pr2, jd2, kp2, ks2, kl2, ctA2, ctB2, cA2, lA2, mA2, cB2, lB2, mB2, ta2) => rv = (some (.int (toldV r bo bt bs pc sz wr sd what))) ∧ (sgP r u sv2 cA2 ctA2 cB2 ctB2)) (fun (ugh : Int32 × Int32 × Int32 × Int32 × Int32 × Int32 × Int32 × Int32 × Int32 × Int32 × (Nat → Int32) × (Nat → Int32) × (Nat → Int32) × (Nat → Int32) × (Nat → Int32) × (Nat → Int32) × (Nat → Int32)) => match ugh with | (sv2, cr2, cf2, pr2, jd2, kp2, ks2, kl2, ctA2, ctB2, cA2, lA2, mA2, cB2, lB2, mB2, ta2) => ([(z0, .inr (7, [.ref s0, .ref v0, .ref d0, .ref y0, .ref b0, .ref i0, .ref i1, .ref i2, .ref i3, .int sd])), (s0, .inr (6, [.int (r 0), .ref s1, .ref s2, .ref s3, .ref s4, .int (nI u)])), (s1, .inl (D.1 100, 16, .inl (sE r))), (s3, .inl (D.1 100, 5, .inl (sT r))), (s4, .inl (D.1 100, 64, .inl (sG r))), (v0, .inr (5, [.ref s0, .ref l0, .ref g0, .int sv2, .int cr2, .int cf2, .int pr2, .int jd2, .int kp2, .int ks2, .int kl2, .ref v1])), (l0, .inr (2, [.ref l1, .int ctA2, .ref l2, .ref l3])), (l1, .inl (D.1 100, 8, .inl cA2)), (l2, .inl (D.1 100, 8, .inl lA2)), (l3, .inl (D.1 100, 8, .inl mA2)), (g0, .inr (2, [.ref g1, .int ctB2, .ref g2, .ref g3])), (g1, .inl (D.1 100, 8, .inl cB2)), (g2, .inl (D.1 100, 8, .inl lB2)), (g3, .inl (D.1 100, 8, .inl mB2)), (v1, .inl (D.1 100, 41, .inl ta2)), (b0, .inr (1, [.ref b1, .ref b2, .ref b3, .int (nI wr)])), (b1, .inl (D.1 100, 20, .inl bo)), (b2, .inl (D.1 100, 20, .inl bt)), (b3, .inl (D.1 100, 20, .inl bs)), (d0, .inr (4, [.ref d1, .int (nI sz), .int nx, .int cl, .int fn, .int fa, .ref e0])), (y0, .inr (3, [.ref y1, .int (nI fi), .int (nI pc)]))] : va_W))) [(z0, .inr (7, [.ref s0, .ref v0, .ref d0, .ref y0, .ref b0, .ref i0, .ref i1, .ref i2, .ref i3, .int sd])), (s0, .inr (6, [.int (r 0), .ref s1, .ref s2, .ref s3, .ref s4, .int (nI u)])), (s1, .inl (D.1 100, 16, .inl (sE r))), (s3, .inl (D.1 100, 5, .inl (sT r))), (s4, .inl (D.1 100, 64, .inl (sG r))), (v0, .inr (5, [.ref s0, .ref l0, .ref g0, .int sv, .int cr, .int cf, .int pr, .int jd, .int kp, .int ks, .int kl, .ref v1])), (l0, .inr (2, [.ref l1, .int ctA, .ref l2, .ref l3])), (l1, .inl (D.1 100, 8, .inl cA)), (l2, .inl (D.1 100, 8, .inl lA)), (l3, .inl (D.1 100, 8, .inl mA)), (g0, .inr (2, [.ref g1, .int ctB, .ref g2, .ref g3])), (g1, .inl (D.1 100, 8, .inl cB)), (g2, .inl (D.1 100, 8, .inl lB)), (g3, .inl (D.1 100, 8, .inl mB)), (v1, .inl (D.1 100, 41, .inl ta)), (b0, .inr (1, [.ref b1, .ref b2, .ref b3, .int (nI wr)])), (b1, .inl (D.1 100, 20, .inl bo)), (b2, .inl (D.1 100, 20, .inl bt)), (b3, .inl (D.1 100, 20, .inl bs)), (d0, .inr (4, [.ref d1, .int (nI sz), .int nx, .int cl, .int fn, .int fa, .ref e0])), (y0, .inr (3, [.ref y1, .int (nI fi), .int (nI pc)]))] 0 0 0 [some (.ref z0), some (.int what)] []
  generalize hQ : QM X 0 0 (fun (rv : Option Value) (ugh : Int32 × Int32 × Int32 × Int32 × Int32 × Int32 × Int32 × Int32 × Int32 × Int32 × (Nat → Int32) × (Nat → Int32) × (Nat → Int32) × (Nat → Int32) × (Nat → Int32) × (Nat → Int32) × (Nat → Int32)) => match ugh with | (sv2, cr2, cf2, pr2, jd2, kp2, ks2, kl2, ctA2, ctB2, cA2, lA2, mA2, cB2, lB2, mB2, ta2) => rv = (some (.int (toldV r bo bt bs pc sz wr sd what))) ∧ (sgP r u sv2 cA2 ctA2 cB2 ctB2)) (fun (ugh : Int32 × Int32 × Int32 × Int32 × Int32 × Int32 × Int32 × Int32 × Int32 × Int32 × (Nat → Int32) × (Nat → Int32) × (Nat → Int32) × (Nat → Int32) × (Nat → Int32) × (Nat → Int32) × (Nat → Int32)) => match ugh with | (sv2, cr2, cf2, pr2, jd2, kp2, ks2, kl2, ctA2, ctB2, cA2, lA2, mA2, cB2, lB2, mB2, ta2) => ([(z0, .inr (7, [.ref s0, .ref v0, .ref d0, .ref y0, .ref b0, .ref i0, .ref i1, .ref i2, .ref i3, .int sd])), (s0, .inr (6, [.int (r 0), .ref s1, .ref s2, .ref s3, .ref s4, .int (nI u)])), (s1, .inl (D.1 100, 16, .inl (sE r))), (s3, .inl (D.1 100, 5, .inl (sT r))), (s4, .inl (D.1 100, 64, .inl (sG r))), (v0, .inr (5, [.ref s0, .ref l0, .ref g0, .int sv2, .int cr2, .int cf2, .int pr2, .int jd2, .int kp2, .int ks2, .int kl2, .ref v1])), (l0, .inr (2, [.ref l1, .int ctA2, .ref l2, .ref l3])), (l1, .inl (D.1 100, 8, .inl cA2)), (l2, .inl (D.1 100, 8, .inl lA2)), (l3, .inl (D.1 100, 8, .inl mA2)), (g0, .inr (2, [.ref g1, .int ctB2, .ref g2, .ref g3])), (g1, .inl (D.1 100, 8, .inl cB2)), (g2, .inl (D.1 100, 8, .inl lB2)), (g3, .inl (D.1 100, 8, .inl mB2)), (v1, .inl (D.1 100, 41, .inl ta2)), (b0, .inr (1, [.ref b1, .ref b2, .ref b3, .int (nI wr)])), (b1, .inl (D.1 100, 20, .inl bo)), (b2, .inl (D.1 100, 20, .inl bt)), (b3, .inl (D.1 100, 20, .inl bs)), (d0, .inr (4, [.ref d1, .int (nI sz), .int nx, .int cl, .int fn, .int fa, .ref e0])), (y0, .inr (3, [.ref y1, .int (nI fi), .int (nI pc)]))] : va_W)) = Q
  refine g_aload_n hX dX6_told_0 rfl ?_
  refine g_getf hX dX6_told_1 fk_X6_21 0 rfl rfl ?_
  refine g_call hX dX6_told_4 cw_X6_95 (ct_X4_settle  (by first | with_reducible assumption | assumption) hlk hsg.2) 5 5 [5, 1, 2, 3, 6, 7, 8, 9, 10, 11, 12, 13] rfl rfl rfl rfl (by decide) rfl (fun ⟨_, _, _, _⟩ => rfl) ⟨by decide, by decide⟩ (Nat.le_of_ble_eq_true rfl) ⟨Nat.le_refl _, Nat.le_refl _⟩ (fun vgh ugh hp => ?_)
  obtain ⟨lC4, mC4, lE4, mE4⟩ := ugh
  obtain ⟨rfl⟩ := hp
  show G X Q [(z0, .inr (7, [.ref s0, .ref v0, .ref d0, .ref y0, .ref b0, .ref i0, .ref i1, .ref i2, .ref i3, .int sd])), (s0, .inr (6, [.int (r 0), .ref s1, .ref s2, .ref s3, .ref s4, .int (nI u)])), (s1, .inl (D.1 100, 16, .inl (sE r))), (s3, .inl (D.1 100, 5, .inl (sT r))), (s4, .inl (D.1 100, 64, .inl (sG r))), (v0, .inr (5, [.ref s0, .ref l0, .ref g0, .int (nI u), .int cr, .int cf, .int pr, .int jd, .int kp, .int ks, .int kl, .ref v1])), (l0, .inr (2, [.ref l1, .int (nI (clM r 0)), .ref l2, .ref l3])), (l1, .inl (D.1 100, 8, .inl (clA r 0))), (l2, .inl (D.1 100, 8, .inl lC4)), (l3, .inl (D.1 100, 8, .inl mC4)), (g0, .inr (2, [.ref g1, .int (nI (clM r 1)), .ref g2, .ref g3])), (g1, .inl (D.1 100, 8, .inl (clA r 1))), (g2, .inl (D.1 100, 8, .inl lE4)), (g3, .inl (D.1 100, 8, .inl mE4)), (v1, .inl (D.1 100, 41, .inl ta)), (b0, .inr (1, [.ref b1, .ref b2, .ref b3, .int (nI wr)])), (b1, .inl (D.1 100, 20, .inl bo)), (b2, .inl (D.1 100, 20, .inl bt)), (b3, .inl (D.1 100, 20, .inl bs)), (d0, .inr (4, [.ref d1, .int (nI sz), .int nx, .int cl, .int fn, .int fa, .ref e0])), (y0, .inr (3, [.ref y1, .int (nI fi), .int (nI pc)]))] 0 0 7 [some (.ref z0), some (.int what)] []
  refine g_iload_n hX dX6_told_7 rfl ?_
  by_cases hs8_0 : what = nI 0
  · subst hs8_0
    refine g_tswj (tgt := 92) hX dX6_told_8 0 rfl (by decide) rfl (by decide) ?_
    refine g_aload_n hX dX6_told_92 rfl ?_
    refine g_getf hX dX6_told_93 fk_X6_10 0 rfl rfl ?_
    refine g_getf hX dX6_told_96 fk_X6_98 1 rfl rfl ?_
    subst hQ
    exact g_zretU hX dX6_told_99 (vp_nar_int _) ((nI u), cr, cf, pr, jd, kp, ks, kl, (nI (clM r 0)), (nI (clM r 1)), (clA r 0), lC4, mC4, (clA r 1), lE4, mE4, ta) (⟨iR (toldV_n (k := 0) (by decide)), sgP_set⟩) rfl (Nat.le_refl _) (Nat.le_refl _)
  by_cases hs8_1 : what = nI 1
  · subst hs8_1
    refine g_tswj (tgt := 100) hX dX6_told_8 1 rfl (by decide) rfl (by decide) ?_
    refine g_aload_n hX dX6_told_100 rfl ?_
    refine g_getf hX dX6_told_101 fk_X6_21 0 rfl rfl ?_
    refine g_getf hX dX6_told_104 fk_X6_101 5 rfl rfl ?_
    refine g_getf hX dX6_told_107 fk_X6_105 6 rfl rfl ?_
    subst hQ
    exact g_zretU hX dX6_told_110 (vp_nar_int _) ((nI u), cr, cf, pr, jd, kp, ks, kl, (nI (clM r 0)), (nI (clM r 1)), (clA r 0), lC4, mC4, (clA r 1), lE4, mE4, ta) (⟨iR (toldV_n (k := 1) (by decide)), sgP_set⟩) rfl (Nat.le_refl _) (Nat.le_refl _)
  by_cases hs8_2 : what = nI 2
  · subst hs8_2
    refine g_tswj (tgt := 111) hX dX6_told_8 2 rfl (by decide) rfl (by decide) ?_
    refine g_aload_n hX dX6_told_111 rfl ?_
    refine g_getf hX dX6_told_112 fk_X6_21 0 rfl rfl ?_
    refine g_getf hX dX6_told_115 fk_X6_110 5 rfl rfl ?_
    refine g_getf hX dX6_told_118 fk_X6_105 10 rfl rfl ?_
    subst hQ
    exact g_zretU hX dX6_told_121 (vp_nar_int _) ((nI u), cr, cf, pr, jd, kp, ks, kl, (nI (clM r 0)), (nI (clM r 1)), (clA r 0), lC4, mC4, (clA r 1), lE4, mE4, ta) (⟨iR (toldV_n (k := 2) (by decide)), sgP_set⟩) rfl (Nat.le_refl _) (Nat.le_refl _)
  by_cases hs8_3 : what = nI 3
  · subst hs8_3
    refine g_tswj (tgt := 122) hX dX6_told_8 3 rfl (by decide) rfl (by decide) ?_
    refine g_aload_n hX dX6_told_122 rfl ?_
    refine g_getf hX dX6_told_123 fk_X6_10 0 rfl rfl ?_
    refine g_callRi hX dX6_told_126 cw_X6_113 (ct_X5_countJudged  (by first | with_reducible assumption | assumption)) 1 6 [1, 4] rfl rfl rfl rfl (by decide) rfl ⟨by decide, by decide⟩ (Nat.le_of_ble_eq_true rfl) (Nat.le_refl _) (Nat.le_refl _) ?_
    subst hQ
    exact g_zretU hX dX6_told_129 (vp_nar_int _) ((nI u), cr, cf, pr, jd, kp, ks, kl, (nI (clM r 0)), (nI (clM r 1)), (clA r 0), lC4, mC4, (clA r 1), lE4, mE4, ta) (⟨iR (toldV_n (k := 3) (by decide)), sgP_set⟩) rfl (Nat.le_refl _) (Nat.le_refl _)
  by_cases hs8_4 : what = nI 4
  · subst hs8_4
    refine g_tswj (tgt := 130) hX dX6_told_8 4 rfl (by decide) rfl (by decide) ?_
    refine g_aload_n hX dX6_told_130 rfl ?_
    refine g_getf hX dX6_told_131 fk_X6_21 0 rfl rfl ?_
    refine g_call hX dX6_told_134 cw_X6_117 (ct_X4_countStrange  (by first | with_reducible assumption | assumption) (by first | with_reducible assumption | assumption) (by first | with_reducible assumption | assumption) (by omega)) 5 5 [5, 1, 2, 3, 4, 6, 7, 10, 11, 14] rfl rfl rfl rfl (by decide) rfl (fun ⟨_, _, _, _, _, _, _, _⟩ => rfl) ⟨by decide, by decide⟩ (Nat.le_of_ble_eq_true rfl) ⟨Nat.le_refl _, Nat.le_refl _⟩ (fun vgh ugh hp => ?_)
    obtain ⟨cr2134, cf2134, pr2134, jd2134, kp2134, ks2134, kl2134, ta2134⟩ := ugh
    obtain ⟨rfl⟩ := hp
    show G X Q [(z0, .inr (7, [.ref s0, .ref v0, .ref d0, .ref y0, .ref b0, .ref i0, .ref i1, .ref i2, .ref i3, .int sd])), (s0, .inr (6, [.int (r 0), .ref s1, .ref s2, .ref s3, .ref s4, .int (nI u)])), (s1, .inl (D.1 100, 16, .inl (sE r))), (s3, .inl (D.1 100, 5, .inl (sT r))), (s4, .inl (D.1 100, 64, .inl (sG r))), (v0, .inr (5, [.ref s0, .ref l0, .ref g0, .int (nI u), .int cr2134, .int cf2134, .int pr2134, .int jd2134, .int kp2134, .int ks2134, .int kl2134, .ref v1])), (l0, .inr (2, [.ref l1, .int (nI (clM r 0)), .ref l2, .ref l3])), (l1, .inl (D.1 100, 8, .inl (clA r 0))), (l2, .inl (D.1 100, 8, .inl lC4)), (l3, .inl (D.1 100, 8, .inl mC4)), (g0, .inr (2, [.ref g1, .int (nI (clM r 1)), .ref g2, .ref g3])), (g1, .inl (D.1 100, 8, .inl (clA r 1))), (g2, .inl (D.1 100, 8, .inl lE4)), (g3, .inl (D.1 100, 8, .inl mE4)), (v1, .inl (D.1 100, 41, .inl ta2134)), (b0, .inr (1, [.ref b1, .ref b2, .ref b3, .int (nI wr)])), (b1, .inl (D.1 100, 20, .inl bo)), (b2, .inl (D.1 100, 20, .inl bt)), (b3, .inl (D.1 100, 20, .inl bs)), (d0, .inr (4, [.ref d1, .int (nI sz), .int nx, .int cl, .int fn, .int fa, .ref e0])), (y0, .inr (3, [.ref y1, .int (nI fi), .int (nI pc)]))] 0 0 137 [some (.ref z0), some (.int (nI 4))] [.int (smTo r (cq r) 64)]
    subst hQ
    exact g_zretU hX dX6_told_137 (vp_nar_int _) ((nI u), cr2134, cf2134, pr2134, jd2134, kp2134, ks2134, kl2134, (nI (clM r 0)), (nI (clM r 1)), (clA r 0), lC4, mC4, (clA r 1), lE4, mE4, ta2134) (⟨iR (toldV_n (k := 4) (by decide)), sgP_set⟩) rfl (Nat.le_refl _) (Nat.le_refl _)
  by_cases hs8_5 : what = nI 5
  · subst hs8_5
    refine g_tswj (tgt := 138) hX dX6_told_8 5 rfl (by decide) rfl (by decide) ?_
    refine g_aload_n hX dX6_told_138 rfl ?_
    refine g_getf hX dX6_told_139 fk_X6_21 0 rfl rfl ?_
    refine g_call hX dX6_told_142 cw_X6_120 (ct_X4_size  (by first | with_reducible assumption | assumption) (by first | with_reducible assumption | assumption) (by first | with_reducible assumption | assumption) (by omega)) 5 5 [5, 1, 2, 3, 4, 6, 7, 10, 11, 14] rfl rfl rfl rfl (by decide) rfl (fun ⟨_, _, _, _, _, _, _, _⟩ => rfl) ⟨by decide, by decide⟩ (Nat.le_of_ble_eq_true rfl) ⟨Nat.le_refl _, Nat.le_refl _⟩ (fun vgh ugh hp => ?_)
    obtain ⟨cr2142, cf2142, pr2142, jd2142, kp2142, ks2142, kl2142, ta2142⟩ := ugh
    obtain ⟨rfl⟩ := hp
    show G X Q [(z0, .inr (7, [.ref s0, .ref v0, .ref d0, .ref y0, .ref b0, .ref i0, .ref i1, .ref i2, .ref i3, .int sd])), (s0, .inr (6, [.int (r 0), .ref s1, .ref s2, .ref s3, .ref s4, .int (nI u)])), (s1, .inl (D.1 100, 16, .inl (sE r))), (s3, .inl (D.1 100, 5, .inl (sT r))), (s4, .inl (D.1 100, 64, .inl (sG r))), (v0, .inr (5, [.ref s0, .ref l0, .ref g0, .int (nI u), .int cr2142, .int cf2142, .int pr2142, .int jd2142, .int kp2142, .int ks2142, .int kl2142, .ref v1])), (l0, .inr (2, [.ref l1, .int (nI (clM r 0)), .ref l2, .ref l3])), (l1, .inl (D.1 100, 8, .inl (clA r 0))), (l2, .inl (D.1 100, 8, .inl lC4)), (l3, .inl (D.1 100, 8, .inl mC4)), (g0, .inr (2, [.ref g1, .int (nI (clM r 1)), .ref g2, .ref g3])), (g1, .inl (D.1 100, 8, .inl (clA r 1))), (g2, .inl (D.1 100, 8, .inl lE4)), (g3, .inl (D.1 100, 8, .inl mE4)), (v1, .inl (D.1 100, 41, .inl ta2142)), (b0, .inr (1, [.ref b1, .ref b2, .ref b3, .int (nI wr)])), (b1, .inl (D.1 100, 20, .inl bo)), (b2, .inl (D.1 100, 20, .inl bt)), (b3, .inl (D.1 100, 20, .inl bs)), (d0, .inr (4, [.ref d1, .int (nI sz), .int nx, .int cl, .int fn, .int fa, .ref e0])), (y0, .inr (3, [.ref y1, .int (nI fi), .int (nI pc)]))] 0 0 145 [some (.ref z0), some (.int (nI 5))] [.int (nI (clM r 1 * clM r 0) + smTo r (cq r) 64)]
    subst hQ
    exact g_zretU hX dX6_told_145 (vp_nar_int _) ((nI u), cr2142, cf2142, pr2142, jd2142, kp2142, ks2142, kl2142, (nI (clM r 0)), (nI (clM r 1)), (clA r 0), lC4, mC4, (clA r 1), lE4, mE4, ta2142) (⟨iR ((toldV_n (k := 5) (by decide)).trans (by show nI _ * nI _ + _ = _; rw [pk_mul, Nat.mul_comm])), sgP_set⟩) rfl (Nat.le_refl _) (Nat.le_refl _)
  by_cases hs8_6 : what = nI 6
  · subst hs8_6
    refine g_tswj (tgt := 146) hX dX6_told_8 6 rfl (by decide) rfl (by decide) ?_
    refine g_aload_n hX dX6_told_146 rfl ?_
    refine g_getf hX dX6_told_147 fk_X6_21 0 rfl rfl ?_
    refine g_call hX dX6_told_150 cw_X6_123 (ct_X4_misses  (by first | with_reducible assumption | assumption) (by first | with_reducible assumption | assumption) (by first | with_reducible assumption | assumption) (by omega) (by first | with_reducible assumption | assumption) (by omega)) 5 5 [5, 1, 2, 3, 4, 6, 7, 10, 11, 14] rfl rfl rfl rfl (by decide) rfl (fun ⟨_, _, _, _, _, _, _, _⟩ => rfl) ⟨by decide, by decide⟩ (Nat.le_of_ble_eq_true rfl) ⟨Nat.le_refl _, Nat.le_refl _⟩ (fun vgh ugh hp => ?_)
    obtain ⟨cr2150, cf2150, pr2150, jd2150, kp2150, ks2150, kl2150, ta2150⟩ := ugh
    obtain ⟨rfl⟩ := hp
    show G X Q [(z0, .inr (7, [.ref s0, .ref v0, .ref d0, .ref y0, .ref b0, .ref i0, .ref i1, .ref i2, .ref i3, .int sd])), (s0, .inr (6, [.int (r 0), .ref s1, .ref s2, .ref s3, .ref s4, .int (nI u)])), (s1, .inl (D.1 100, 16, .inl (sE r))), (s3, .inl (D.1 100, 5, .inl (sT r))), (s4, .inl (D.1 100, 64, .inl (sG r))), (v0, .inr (5, [.ref s0, .ref l0, .ref g0, .int (nI u), .int cr2150, .int cf2150, .int pr2150, .int jd2150, .int kp2150, .int ks2150, .int kl2150, .ref v1])), (l0, .inr (2, [.ref l1, .int (nI (clM r 0)), .ref l2, .ref l3])), (l1, .inl (D.1 100, 8, .inl (clA r 0))), (l2, .inl (D.1 100, 8, .inl lC4)), (l3, .inl (D.1 100, 8, .inl mC4)), (g0, .inr (2, [.ref g1, .int (nI (clM r 1)), .ref g2, .ref g3])), (g1, .inl (D.1 100, 8, .inl (clA r 1))), (g2, .inl (D.1 100, 8, .inl lE4)), (g3, .inl (D.1 100, 8, .inl mE4)), (v1, .inl (D.1 100, 41, .inl ta2150)), (b0, .inr (1, [.ref b1, .ref b2, .ref b3, .int (nI wr)])), (b1, .inl (D.1 100, 20, .inl bo)), (b2, .inl (D.1 100, 20, .inl bt)), (b3, .inl (D.1 100, 20, .inl bs)), (d0, .inr (4, [.ref d1, .int (nI sz), .int nx, .int cl, .int fn, .int fa, .ref e0])), (y0, .inr (3, [.ref y1, .int (nI fi), .int (nI pc)]))] 0 0 153 [some (.ref z0), some (.int (nI 6))] [.int (miTo r (cq r) 64)]
    subst hQ
    exact g_zretU hX dX6_told_153 (vp_nar_int _) ((nI u), cr2150, cf2150, pr2150, jd2150, kp2150, ks2150, kl2150, (nI (clM r 0)), (nI (clM r 1)), (clA r 0), lC4, mC4, (clA r 1), lE4, mE4, ta2150) (⟨iR (toldV_n (k := 6) (by decide)), sgP_set⟩) rfl (Nat.le_refl _) (Nat.le_refl _)
  by_cases hs8_7 : what = nI 7
  · subst hs8_7
    refine g_tswj (tgt := 154) hX dX6_told_8 7 rfl (by decide) rfl (by decide) ?_
    refine g_aload_n hX dX6_told_154 rfl ?_
    refine g_getf hX dX6_told_155 fk_X6_10 0 rfl rfl ?_
    refine g_getf hX dX6_told_158 fk_X6_126 1 rfl rfl ?_
    refine g_iload_n hX dX6_told_161 rfl ?_
    refine g_bipush hX dX6_told_162 kn_b_7 ?_
    refine g_isubN hX dX6_told_164 (by omega) ?_
    refine g_iald hX dX6_told_165 3 rfl (by decide) (by omega) ?_
    subst hQ
    exact g_zretU hX dX6_told_166 (vp_nar_int _) ((nI u), cr, cf, pr, jd, kp, ks, kl, (nI (clM r 0)), (nI (clM r 1)), (clA r 0), lC4, mC4, (clA r 1), lE4, mE4, ta) (⟨iR ((toldV_n (k := 7) (by decide)).trans (sT_at (k := 7 - 7) (by decide)).symm), sgP_set⟩) rfl (Nat.le_refl _) (Nat.le_refl _)
  by_cases hs8_8 : what = nI 8
  · subst hs8_8
    refine g_tswj (tgt := 154) hX dX6_told_8 8 rfl (by decide) rfl (by decide) ?_
    refine g_aload_n hX dX6_told_154 rfl ?_
    refine g_getf hX dX6_told_155 fk_X6_10 0 rfl rfl ?_
    refine g_getf hX dX6_told_158 fk_X6_126 1 rfl rfl ?_
    refine g_iload_n hX dX6_told_161 rfl ?_
    refine g_bipush hX dX6_told_162 kn_b_7 ?_
    refine g_isubN hX dX6_told_164 (by omega) ?_
    refine g_iald hX dX6_told_165 3 rfl (by decide) (by omega) ?_
    subst hQ
    exact g_zretU hX dX6_told_166 (vp_nar_int _) ((nI u), cr, cf, pr, jd, kp, ks, kl, (nI (clM r 0)), (nI (clM r 1)), (clA r 0), lC4, mC4, (clA r 1), lE4, mE4, ta) (⟨iR ((toldV_n (k := 8) (by decide)).trans (sT_at (k := 8 - 7) (by decide)).symm), sgP_set⟩) rfl (Nat.le_refl _) (Nat.le_refl _)
  by_cases hs8_9 : what = nI 9
  · subst hs8_9
    refine g_tswj (tgt := 154) hX dX6_told_8 9 rfl (by decide) rfl (by decide) ?_
    refine g_aload_n hX dX6_told_154 rfl ?_
    refine g_getf hX dX6_told_155 fk_X6_10 0 rfl rfl ?_
    refine g_getf hX dX6_told_158 fk_X6_126 1 rfl rfl ?_
    refine g_iload_n hX dX6_told_161 rfl ?_
    refine g_bipush hX dX6_told_162 kn_b_7 ?_
    refine g_isubN hX dX6_told_164 (by omega) ?_
    refine g_iald hX dX6_told_165 3 rfl (by decide) (by omega) ?_
    subst hQ
    exact g_zretU hX dX6_told_166 (vp_nar_int _) ((nI u), cr, cf, pr, jd, kp, ks, kl, (nI (clM r 0)), (nI (clM r 1)), (clA r 0), lC4, mC4, (clA r 1), lE4, mE4, ta) (⟨iR ((toldV_n (k := 9) (by decide)).trans (sT_at (k := 9 - 7) (by decide)).symm), sgP_set⟩) rfl (Nat.le_refl _) (Nat.le_refl _)
  by_cases hs8_10 : what = nI 10
  · subst hs8_10
    refine g_tswj (tgt := 154) hX dX6_told_8 10 rfl (by decide) rfl (by decide) ?_
    refine g_aload_n hX dX6_told_154 rfl ?_
    refine g_getf hX dX6_told_155 fk_X6_10 0 rfl rfl ?_
    refine g_getf hX dX6_told_158 fk_X6_126 1 rfl rfl ?_
    refine g_iload_n hX dX6_told_161 rfl ?_
    refine g_bipush hX dX6_told_162 kn_b_7 ?_
    refine g_isubN hX dX6_told_164 (by omega) ?_
    refine g_iald hX dX6_told_165 3 rfl (by decide) (by omega) ?_
    subst hQ
    exact g_zretU hX dX6_told_166 (vp_nar_int _) ((nI u), cr, cf, pr, jd, kp, ks, kl, (nI (clM r 0)), (nI (clM r 1)), (clA r 0), lC4, mC4, (clA r 1), lE4, mE4, ta) (⟨iR ((toldV_n (k := 10) (by decide)).trans (sT_at (k := 10 - 7) (by decide)).symm), sgP_set⟩) rfl (Nat.le_refl _) (Nat.le_refl _)
  by_cases hs8_11 : what = nI 11
  · subst hs8_11
    refine g_tswj (tgt := 154) hX dX6_told_8 11 rfl (by decide) rfl (by decide) ?_
    refine g_aload_n hX dX6_told_154 rfl ?_
    refine g_getf hX dX6_told_155 fk_X6_10 0 rfl rfl ?_
    refine g_getf hX dX6_told_158 fk_X6_126 1 rfl rfl ?_
    refine g_iload_n hX dX6_told_161 rfl ?_
    refine g_bipush hX dX6_told_162 kn_b_7 ?_
    refine g_isubN hX dX6_told_164 (by omega) ?_
    refine g_iald hX dX6_told_165 3 rfl (by decide) (by omega) ?_
    subst hQ
    exact g_zretU hX dX6_told_166 (vp_nar_int _) ((nI u), cr, cf, pr, jd, kp, ks, kl, (nI (clM r 0)), (nI (clM r 1)), (clA r 0), lC4, mC4, (clA r 1), lE4, mE4, ta) (⟨iR ((toldV_n (k := 11) (by decide)).trans (sT_at (k := 11 - 7) (by decide)).symm), sgP_set⟩) rfl (Nat.le_refl _) (Nat.le_refl _)
  by_cases hs8_12 : what = nI 12
  · subst hs8_12
    refine g_tswj (tgt := 167) hX dX6_told_8 12 rfl (by decide) rfl (by decide) ?_
    refine g_aload_n hX dX6_told_167 rfl ?_
    refine g_getf hX dX6_told_168 fk_X6_28 0 rfl rfl ?_
    refine g_getf hX dX6_told_171 fk_X6_70 19 rfl rfl ?_
    subst hQ
    exact g_zretU hX dX6_told_174 (vp_nar_int _) ((nI u), cr, cf, pr, jd, kp, ks, kl, (nI (clM r 0)), (nI (clM r 1)), (clA r 0), lC4, mC4, (clA r 1), lE4, mE4, ta) (⟨iR (toldV_n (k := 12) (by decide)), sgP_set⟩) rfl (Nat.le_refl _) (Nat.le_refl _)
  by_cases hs8_13 : what = nI 13
  · subst hs8_13
    refine g_tswj (tgt := 175) hX dX6_told_8 13 rfl (by decide) rfl (by decide) ?_
    refine g_aload_n hX dX6_told_175 rfl ?_
    refine g_getf hX dX6_told_176 fk_X6_42 0 rfl rfl ?_
    refine g_getf hX dX6_told_179 fk_X6_129 15 rfl rfl ?_
    subst hQ
    exact g_zretU hX dX6_told_182 (vp_nar_int _) ((nI u), cr, cf, pr, jd, kp, ks, kl, (nI (clM r 0)), (nI (clM r 1)), (clA r 0), lC4, mC4, (clA r 1), lE4, mE4, ta) (⟨iR (toldV_n (k := 13) (by decide)), sgP_set⟩) rfl (Nat.le_refl _) (Nat.le_refl _)
  by_cases hs8_14 : what = nI 14
  · subst hs8_14
    refine g_tswj (tgt := 183) hX dX6_told_8 14 rfl (by decide) rfl (by decide) ?_
    refine g_aload_n hX dX6_told_183 rfl ?_
    refine g_getf hX dX6_told_184 fk_X6_42 0 rfl rfl ?_
    refine g_aload_n hX dX6_told_187 rfl ?_
    refine g_getf hX dX6_told_188 fk_X6_10 0 rfl rfl ?_
    refine g_aload_n hX dX6_told_191 rfl ?_
    refine g_getf hX dX6_told_192 fk_X6_21 0 rfl rfl ?_
    refine g_call hX dX6_told_195 cw_X6_130 (ct_X0_firstWrong  (by first | with_reducible assumption | assumption) (by first | with_reducible assumption | assumption) (by first | with_reducible assumption | assumption) (by omega) (by first | with_reducible assumption | assumption) (by omega) (by omega)) 15 1 [15, 16, 17, 18, 1, 2, 3, 4, 5, 6, 7, 10, 11, 14] rfl rfl rfl rfl (by decide) rfl (fun ⟨_, _, _, _, _, _, _, _⟩ => rfl) ⟨by decide, by decide⟩ (Nat.le_of_ble_eq_true rfl) ⟨Nat.le_refl _, Nat.le_refl _⟩ (fun vgh ugh hp => ?_)
    obtain ⟨cr2195, cf2195, pr2195, jd2195, kp2195, ks2195, kl2195, ta2195⟩ := ugh
    obtain ⟨rfl⟩ := hp
    show G X Q [(z0, .inr (7, [.ref s0, .ref v0, .ref d0, .ref y0, .ref b0, .ref i0, .ref i1, .ref i2, .ref i3, .int sd])), (s0, .inr (6, [.int (r 0), .ref s1, .ref s2, .ref s3, .ref s4, .int (nI u)])), (s1, .inl (D.1 100, 16, .inl (sE r))), (s3, .inl (D.1 100, 5, .inl (sT r))), (s4, .inl (D.1 100, 64, .inl (sG r))), (v0, .inr (5, [.ref s0, .ref l0, .ref g0, .int (nI u), .int cr2195, .int cf2195, .int pr2195, .int jd2195, .int kp2195, .int ks2195, .int kl2195, .ref v1])), (l0, .inr (2, [.ref l1, .int (nI (clM r 0)), .ref l2, .ref l3])), (l1, .inl (D.1 100, 8, .inl (clA r 0))), (l2, .inl (D.1 100, 8, .inl lC4)), (l3, .inl (D.1 100, 8, .inl mC4)), (g0, .inr (2, [.ref g1, .int (nI (clM r 1)), .ref g2, .ref g3])), (g1, .inl (D.1 100, 8, .inl (clA r 1))), (g2, .inl (D.1 100, 8, .inl lE4)), (g3, .inl (D.1 100, 8, .inl mE4)), (v1, .inl (D.1 100, 41, .inl ta2195)), (b0, .inr (1, [.ref b1, .ref b2, .ref b3, .int (nI wr)])), (b1, .inl (D.1 100, 20, .inl bo)), (b2, .inl (D.1 100, 20, .inl bt)), (b3, .inl (D.1 100, 20, .inl bs)), (d0, .inr (4, [.ref d1, .int (nI sz), .int nx, .int cl, .int fn, .int fa, .ref e0])), (y0, .inr (3, [.ref y1, .int (nI fi), .int (nI pc)]))] 0 0 198 [some (.ref z0), some (.int (nI 14))] [.int (oI (wrongO r bo bt bs wr))]
    subst hQ
    exact g_zretU hX dX6_told_198 (vp_nar_int _) ((nI u), cr2195, cf2195, pr2195, jd2195, kp2195, ks2195, kl2195, (nI (clM r 0)), (nI (clM r 1)), (clA r 0), lC4, mC4, (clA r 1), lE4, mE4, ta2195) (⟨iR (toldV_n (k := 14) (by decide)), sgP_set⟩) rfl (Nat.le_refl _) (Nat.le_refl _)
  by_cases hs8_15 : what = nI 15
  · subst hs8_15
    refine g_tswj (tgt := 199) hX dX6_told_8 15 rfl (by decide) rfl (by decide) ?_
    refine g_aload_n hX dX6_told_199 rfl ?_
    refine g_getf hX dX6_told_200 fk_X6_35 0 rfl rfl ?_
    refine g_getf hX dX6_told_203 fk_X6_134 20 rfl rfl ?_
    subst hQ
    exact g_zretU hX dX6_told_206 (vp_nar_int _) ((nI u), cr, cf, pr, jd, kp, ks, kl, (nI (clM r 0)), (nI (clM r 1)), (clA r 0), lC4, mC4, (clA r 1), lE4, mE4, ta) (⟨iR (toldV_n (k := 15) (by decide)), sgP_set⟩) rfl (Nat.le_refl _) (Nat.le_refl _)
  by_cases hs8_16 : what = nI 16
  · subst hs8_16
    refine g_tswj (tgt := 207) hX dX6_told_8 16 rfl (by decide) rfl (by decide) ?_
    refine g_aload_n hX dX6_told_207 rfl ?_
    refine g_getf hX dX6_told_208 fk_X6_61 0 rfl rfl ?_
    subst hQ
    exact g_zretU hX dX6_told_211 (vp_nar_int _) ((nI u), cr, cf, pr, jd, kp, ks, kl, (nI (clM r 0)), (nI (clM r 1)), (clA r 0), lC4, mC4, (clA r 1), lE4, mE4, ta) (⟨iR (toldV_n (k := 16) (by decide)), sgP_set⟩) rfl (Nat.le_refl _) (Nat.le_refl _)
  have hsw8 : what.toInt < 0 ∨ 16 < what.toInt := sw_out (lo := 0) (n := 17) (by decide) (fun j hj => match j, hj with | 0, _ => hs8_0 | 1, _ => hs8_1 | 2, _ => hs8_2 | 3, _ => hs8_3 | 4, _ => hs8_4 | 5, _ => hs8_5 | 6, _ => hs8_6 | 7, _ => hs8_7 | 8, _ => hs8_8 | 9, _ => hs8_9 | 10, _ => hs8_10 | 11, _ => hs8_11 | 12, _ => hs8_12 | 13, _ => hs8_13 | 14, _ => hs8_14 | 15, _ => hs8_15 | 16, _ => hs8_16 | j + 17, hj => absurd hj (by omega))
  refine g_tswo (tgt := 212) hX dX6_told_8 hsw8 (by decide) ?_
  refine g_ldc hX dX6_told_212 kc_X6_65 ?_
  subst hQ
  exact g_zretU hX dX6_told_214 (vp_nar_int _) ((nI u), cr, cf, pr, jd, kp, ks, kl, (nI (clM r 0)), (nI (clM r 1)), (clA r 0), lC4, mC4, (clA r 1), lE4, mE4, ta) (⟨iR (toldV_o hsw8), sgP_set⟩) rfl (Nat.le_refl _) (Nat.le_refl _)
