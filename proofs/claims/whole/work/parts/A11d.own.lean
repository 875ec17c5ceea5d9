set_option maxRecDepth 100000 in
set_option maxHeartbeats 4000000 in
theorem ct_X4_isLeftOut {l : Launch} {D : va_G} {v0 v1 s0 s1 s2 s3 s4 l0 g0 : Nat} {r : Nat → Int32} {vn sv : Int32} {i j o c d : Nat} (hg : okG r) (ho : r 2 = nI o) (ho2 : o ≤ 20) (hc : c < 8) (hd : d < 8) (kc : kn (r 0) c = true) (kd : kn (r 0) d = true) (hi2 : cq r (8 + c) = nI i) (hj2 : cq r d = nI j) : Cf l D yX4_isLeftOut cX4_isLeftOut 4 (some .boolean) 1 22 [.ref v0, .int (nI c), .int (nI d)] [(v0, .inr (5, [.ref s0, .ref l0, .ref g0, .int sv, .int (nI i), .int (nI j), .int (nI (prN r i j)), .int (nI (jdN r i j)), .int (nI (kpN r i j o 41)), .int (kSm r i j o 41), .int (kLs r i j o 41), .ref v1])), (s0, .inr (6, [.int (r 0), .ref s1, .ref s2, .ref s3, .ref s4, .int vn])), (s3, .inl (D.1 100, 5, .inl (sT r))), (s4, .inl (D.1 100, 64, .inl (sG r)))] (some (.int (bI (strB r (cq r) c d)))) [(v0, .inr (5, [.ref s0, .ref l0, .ref g0, .int sv, .int (nI i), .int (nI j), .int (nI (prN r i j)), .int (nI (jdN r i j)), .int (nI (kpN r i j o 41)), .int (kSm r i j o 41), .int (kLs r i j o 41), .ref v1])), (s0, .inr (6, [.int (r 0), .ref s1, .ref s2, .ref s3, .ref s4, .int vn])), (s3, .inl (D.1 100, 5, .inl (sT r))), (s4, .inl (D.1 100, 64, .inl (sG r)))] := by
  refine Ct.ofG (by decide) (Nat.le_of_ble_eq_true rfl) ?_
  intro X hX
  have hX : CX X l D RX4 "isLeftOut" cX4_isLeftOut 4 (some .boolean) 1 22 0 0 := hX
  show G X (QF X (some (.int (bI (strB r (cq r) c d)))) [(v0, .inr (5, [.ref s0, .ref l0, .ref g0, .int sv, .int (nI i), .int (nI j), .int (nI (prN r i j)), .int (nI (jdN r i j)), .int (nI (kpN r i j o 41)), .int (kSm r i j o 41), .int (kLs r i j o 41), .ref v1])), (s0, .inr (6, [.int (r 0), .ref s1, .ref s2, .ref s3, .ref s4, .int vn])), (s3, .inl (D.1 100, 5, .inl (sT r))), (s4, .inl (D.1 100, 64, .inl (sG r)))]) [(v0, .inr (5, [.ref s0, .ref l0, .ref g0, .int sv, .int (nI i), .int (nI j), .int (nI (prN r i j)), .int (nI (jdN r i j)), .int (nI (kpN r i j o 41)), .int (kSm r i j o 41), .int (kLs r i j o 41), .ref v1])), (s0, .inr (6, [.int (r 0), .ref s1, .ref s2, .ref s3, .ref s4, .int vn])), (s3, .inl (D.1 100, 5, .inl (sT r))), (s4, .inl (D.1 100, 64, .inl (sG r)))] 0 0 0 [some (.ref v0), some (.int (nI c)), some (.int (nI d)), none] []
  generalize hQ : QF X (some (.int (bI (strB r (cq r) c d)))) [(v0, .inr (5, [.ref s0, .ref l0, .ref g0, .int sv, .int (nI i), .int (nI j), .int (nI (prN r i j)), .int (nI (jdN r i j)), .int (nI (kpN r i j o 41)), .int (kSm r i j o 41), .int (kLs r i j o 41), .ref v1])), (s0, .inr (6, [.int (r 0), .ref s1, .ref s2, .ref s3, .ref s4, .int vn])), (s3, .inl (D.1 100, 5, .inl (sT r))), (s4, .inl (D.1 100, 64, .inl (sG r)))] = Q
  refine g_aload_n hX dX4_isLeftOut_0 rfl ?_
  refine g_getf hX dX4_isLeftOut_1 fk_X4_50 0 rfl rfl ?_
  refine g_iload_n hX dX4_isLeftOut_4 rfl ?_
  refine g_iload_n hX dX4_isLeftOut_5 rfl ?_
  refine g_callRi hX dX4_isLeftOut_6 cw_X4_70 (ct_X5_judgedGap  (by omega) (by omega)) 1 6 [1, 3] rfl rfl rfl rfl (by decide) rfl ⟨by decide, by decide⟩ (Nat.le_of_ble_eq_true rfl) (Nat.le_refl _) (Nat.le_refl _) ?_
  refine g_istore_n (L' := [some (.ref v0), some (.int (nI c)), some (.int (nI d)), some (.int (gG (r (94 + 8 * c + d))))]) hX dX4_isLeftOut_9 (by decide) rfl ?_
  refine g_aload_n hX dX4_isLeftOut_10 rfl ?_
  refine g_getf hX dX4_isLeftOut_11 fk_X4_50 0 rfl rfl ?_
  refine g_iload_n hX dX4_isLeftOut_14 rfl ?_
  refine g_iload_n hX dX4_isLeftOut_15 rfl ?_
  refine g_callRi hX dX4_isLeftOut_16 cw_X4_67 (ct_X5_isJudged  (by first | with_reducible assumption | assumption) (by omega) (by omega)) 1 6 [1, 3] rfl rfl rfl rfl (by decide) rfl ⟨by decide, by decide⟩ (Nat.le_of_ble_eq_true rfl) (Nat.le_refl _) (Nat.le_refl _) ?_
  refine g_ifb_eq (tgt := 54) hX dX4_isLeftOut_19 (by decide) (fun h19 => ?_) (fun h19 => ?_)
  · skip
    refine g_iconst hX dX4_isLeftOut_54 kn_i_0 ?_
    subst hQ
    exact g_zret false hX dX4_isLeftOut_55 (by decide) (bR (str_0 h19)) (rfl) rfl rfl
  · skip
    refine g_iload_n hX dX4_isLeftOut_22 rfl ?_
    refine g_aload_n hX dX4_isLeftOut_23 rfl ?_
    refine g_getf hX dX4_isLeftOut_24 fk_X4_43 0 rfl rfl ?_
    refine g_icmp_lt (tgt := 50) hX dX4_isLeftOut_27 (by decide) (fun h27 => ?_) (fun h27 => ?_)
    · skip
      refine g_iconst hX dX4_isLeftOut_50 kn_i_1 ?_
      refine g_goto (tgt := 55) hX dX4_isLeftOut_51 (by decide) ?_
      subst hQ
      exact g_zret true hX dX4_isLeftOut_55 (by decide) (bR ((str_lo hg ho ho2 hc hd kc kd hi2 hj2 h19).trans (by rw [decide_eq_true h27]; rfl))) (rfl) rfl rfl
    · skip
      refine g_iload_n hX dX4_isLeftOut_30 rfl ?_
      refine g_aload_n hX dX4_isLeftOut_31 rfl ?_
      refine g_getf hX dX4_isLeftOut_32 fk_X4_43 0 rfl rfl ?_
      refine g_iconst hX dX4_isLeftOut_35 kn_i_2 ?_
      refine g_aload_n hX dX4_isLeftOut_36 rfl ?_
      refine g_getf hX dX4_isLeftOut_37 fk_X4_50 0 rfl rfl ?_
      refine g_getf hX dX4_isLeftOut_40 fk_X4_84 1 rfl rfl ?_
      refine g_iconst hX dX4_isLeftOut_43 kn_i_1 ?_
      refine g_iald hX dX4_isLeftOut_44 2 rfl (by decide) (by omega) ?_
      refine g_top (v' := nI o) ((sT_at (by decide)).trans ho) ?_
      refine g_imulN hX dX4_isLeftOut_45 ?_
      refine g_iadd hX dX4_isLeftOut_46 ?_
      refine g_icmp_le (tgt := 54) hX dX4_isLeftOut_47 (by decide) (fun h47 => ?_) (fun h47 => ?_)
      · skip
        refine g_iconst hX dX4_isLeftOut_54 kn_i_0 ?_
        subst hQ
        exact g_zret false hX dX4_isLeftOut_55 (by decide) (bR ((str_lo hg ho ho2 hc hd kc kd hi2 hj2 h19).trans (by rw [decide_eq_false h27, decide_eq_false (Int32.not_lt.mpr h47)]; rfl))) (rfl) rfl rfl
      · skip
        refine g_iconst hX dX4_isLeftOut_50 kn_i_1 ?_
        refine g_goto (tgt := 55) hX dX4_isLeftOut_51 (by decide) ?_
        subst hQ
        exact g_zret true hX dX4_isLeftOut_55 (by decide) (bR ((str_lo hg ho ho2 hc hd kc kd hi2 hj2 h19).trans (by rw [decide_eq_false h27, decide_eq_true (Int32.not_le.mp h47)]; rfl))) (rfl) rfl rfl
set_option maxRecDepth 100000 in
set_option maxHeartbeats 4000000 in
theorem ct_X4_isStrange {l : Launch} {D : va_G} {v0 v1 s0 s1 s2 s3 s4 l0 l1 l2 l3 g0 g1 g2 g3 : Nat} {r : Nat → Int32} {vn sv : Int32} {cr cf pr jd kp ks kl : Int32} {c d o : Nat} {ta : Nat → Int32} (hw : okW r) (hg : okG r) (ho : r 2 = nI o) (ho2 : o ≤ 20) (hc : c < 8) (hd : d < 8) : Ct (S := Int32 × Int32 × Int32 × Int32 × Int32 × Int32 × Int32 × (Nat → Int32)) l D yX4_isStrange cX4_isStrange 3 (some .boolean) 4 110 0 0 [.ref v0, .int (nI c), .int (nI d)] [(v0, .inr (5, [.ref s0, .ref l0, .ref g0, .int sv, .int cr, .int cf, .int pr, .int jd, .int kp, .int ks, .int kl, .ref v1])), (s0, .inr (6, [.int (r 0), .ref s1, .ref s2, .ref s3, .ref s4, .int vn])), (s1, .inl (D.1 100, 16, .inl (sE r))), (s3, .inl (D.1 100, 5, .inl (sT r))), (s4, .inl (D.1 100, 64, .inl (sG r))), (l0, .inr (2, [.ref l1, .int (nI (clM r 0)), .ref l2, .ref l3])), (l1, .inl (D.1 100, 8, .inl (clA r 0))), (g0, .inr (2, [.ref g1, .int (nI (clM r 1)), .ref g2, .ref g3])), (g1, .inl (D.1 100, 8, .inl (clA r 1))), (v1, .inl (D.1 100, 41, .inl ta))] (fun (rv : Option Value) (u : Int32 × Int32 × Int32 × Int32 × Int32 × Int32 × Int32 × (Nat → Int32)) => match u with | (cr2, cf2, pr2, jd2, kp2, ks2, kl2, ta2) => rv = (some (.int (bI (strB r (cq r) c d))))) (fun (u : Int32 × Int32 × Int32 × Int32 × Int32 × Int32 × Int32 × (Nat → Int32)) => match u with | (cr2, cf2, pr2, jd2, kp2, ks2, kl2, ta2) => ([(v0, .inr (5, [.ref s0, .ref l0, .ref g0, .int sv, .int cr2, .int cf2, .int pr2, .int jd2, .int kp2, .int ks2, .int kl2, .ref v1])), (s0, .inr (6, [.int (r 0), .ref s1, .ref s2, .ref s3, .ref s4, .int vn])), (s1, .inl (D.1 100, 16, .inl (sE r))), (s3, .inl (D.1 100, 5, .inl (sT r))), (s4, .inl (D.1 100, 64, .inl (sG r))), (l0, .inr (2, [.ref l1, .int (nI (clM r 0)), .ref l2, .ref l3])), (l1, .inl (D.1 100, 8, .inl (clA r 0))), (g0, .inr (2, [.ref g1, .int (nI (clM r 1)), .ref g2, .ref g3])), (g1, .inl (D.1 100, 8, .inl (clA r 1))), (v1, .inl (D.1 100, 41, .inl ta2))] : va_W)) := by
  refine Ct.ofG (by decide) (Nat.le_of_ble_eq_true rfl) ?_
  intro X hX
  have hX : CX X l D RX4 "isStrange" cX4_isStrange 3 (some .boolean) 4 110 0 0 := hX
  show G X (QM X 0 0 (fun (rv : Option Value) (u : Int32 × Int32 × Int32 × Int32 × Int32 × Int32 × Int32 × (Nat → Int32)) => match u with | (cr2, cf2, pr2, jd2, kp2, ks2, kl2, ta2) => rv = (some (.int (bI (strB r (cq r) c d))))) (fun (u : Int32 × Int32 × Int32 × Int32 × Int32 × Int32 × Int32 × (Nat → Int32)) => match u with | (cr2, cf2, pr2, jd2, kp2, ks2, kl2, ta2) => ([(v0, .inr (5, [.ref s0, .ref l0, .ref g0, .int sv, .int cr2, .int cf2, .int pr2, .int jd2, .int kp2, .int ks2, .int kl2, .ref v1])), (s0, .inr (6, [.int (r 0), .ref s1, .ref s2, .ref s3, .ref s4, .int vn])), (s1, .inl (D.1 100, 16, .inl (sE r))), (s3, .inl (D.1 100, 5, .inl (sT r))), (s4, .inl (D.1 100, 64, .inl (sG r))), (l0, .inr (2, [.ref l1, .int (nI (clM r 0)), .ref l2, .ref l3])), (l1, .inl (D.1 100, 8, .inl (clA r 0))), (g0, .inr (2, [.ref g1, .int (nI (clM r 1)), .ref g2, .ref g3])), (g1, .inl (D.1 100, 8, .inl (clA r 1))), (v1, .inl (D.1 100, 41, .inl ta2))] : va_W))) [(v0, .inr (5, [.ref s0, .ref l0, .ref g0, .int sv, .int cr, .int cf, .int pr, .int jd, .int kp, .int ks, .int kl, .ref v1])), (s0, .inr (6, [.int (r 0), .ref s1, .ref s2, .ref s3, .ref s4, .int vn])), (s1, .inl (D.1 100, 16, .inl (sE r))), (s3, .inl (D.1 100, 5, .inl (sT r))), (s4, .inl (D.1 100, 64, .inl (sG r))), (l0, .inr (2, [.ref l1, .int (nI (clM r 0)), .ref l2, .ref l3])), (l1, .inl (D.1 100, 8, .inl (clA r 0))), (g0, .inr (2, [.ref g1, .int (nI (clM r 1)), .ref g2, .ref g3])), (g1, .inl (D.1 100, 8, .inl (clA r 1))), (v1, .inl (D.1 100, 41, .inl ta))] 0 0 0 [some (.ref v0), some (.int (nI c)), some (.int (nI d))] []
  generalize hQ : QM X 0 0 (fun (rv : Option Value) (u : Int32 × Int32 × Int32 × Int32 × Int32 × Int32 × Int32 × (Nat → Int32)) => match u with | (cr2, cf2, pr2, jd2, kp2, ks2, kl2, ta2) => rv = (some (.int (bI (strB r (cq r) c d))))) (fun (u : Int32 × Int32 × Int32 × Int32 × Int32 × Int32 × Int32 × (Nat → Int32)) => match u with | (cr2, cf2, pr2, jd2, kp2, ks2, kl2, ta2) => ([(v0, .inr (5, [.ref s0, .ref l0, .ref g0, .int sv, .int cr2, .int cf2, .int pr2, .int jd2, .int kp2, .int ks2, .int kl2, .ref v1])), (s0, .inr (6, [.int (r 0), .ref s1, .ref s2, .ref s3, .ref s4, .int vn])), (s1, .inl (D.1 100, 16, .inl (sE r))), (s3, .inl (D.1 100, 5, .inl (sT r))), (s4, .inl (D.1 100, 64, .inl (sG r))), (l0, .inr (2, [.ref l1, .int (nI (clM r 0)), .ref l2, .ref l3])), (l1, .inl (D.1 100, 8, .inl (clA r 0))), (g0, .inr (2, [.ref g1, .int (nI (clM r 1)), .ref g2, .ref g3])), (g1, .inl (D.1 100, 8, .inl (clA r 1))), (v1, .inl (D.1 100, 41, .inl ta2))] : va_W)) = Q
  refine g_aload_n hX dX4_isStrange_0 rfl ?_
  refine g_getf hX dX4_isStrange_1 fk_X4_50 0 rfl rfl ?_
  refine g_iload_n hX dX4_isStrange_4 rfl ?_
  refine g_iload_n hX dX4_isStrange_5 rfl ?_
  refine g_callRi hX dX4_isStrange_6 cw_X4_67 (ct_X5_isJudged  (by first | with_reducible assumption | assumption) (by omega) (by omega)) 1 6 [1, 4] rfl rfl rfl rfl (by decide) rfl ⟨by decide, by decide⟩ (Nat.le_of_ble_eq_true rfl) (Nat.le_refl _) (Nat.le_refl _) ?_
  refine g_ifb_ne (tgt := 14) hX dX4_isStrange_9 (by decide) (fun h9 => ?_) (fun h9 => ?_)
  · skip
    obtain ⟨kc, kd⟩ := hw.cd hc hd h9
    refine g_aload_n hX dX4_isStrange_14 rfl ?_
    refine g_aload_n hX dX4_isStrange_15 rfl ?_
    refine g_getf hX dX4_isStrange_16 fk_X4_18 0 rfl rfl ?_
    refine g_getf hX dX4_isStrange_19 fk_X4_77 7 rfl rfl ?_
    refine g_iload_n hX dX4_isStrange_22 rfl ?_
    refine g_iald hX dX4_isStrange_23 8 rfl (by decide) (by omega) ?_
    refine g_top (v' := nI (pat (clR r 1) c)) (clA_n hc kc) ?_
    have hb1 := clR_lt8 (side := 1) hc kc
    refine g_aload_n hX dX4_isStrange_24 rfl ?_
    refine g_getf hX dX4_isStrange_25 fk_X4_12 0 rfl rfl ?_
    refine g_getf hX dX4_isStrange_28 fk_X4_77 5 rfl rfl ?_
    refine g_iload_n hX dX4_isStrange_31 rfl ?_
    refine g_iald hX dX4_isStrange_32 6 rfl (by decide) (by omega) ?_
    refine g_top (v' := nI (pat (clR r 0) d)) (clA_n hd kd) ?_
    have hb2 := clR_lt8 (side := 0) hd kd
    refine g_callFv (ws' := [(v0, .inr (5, [.ref s0, .ref l0, .ref g0, .int sv, .int (nI (pat (clR r 1) c)), .int (nI (pat (clR r 0) d)), .int (nI (prN r (pat (clR r 1) c) (pat (clR r 0) d))), .int (nI (jdN r (pat (clR r 1) c) (pat (clR r 0) d))), .int (nI (kpN r (pat (clR r 1) c) (pat (clR r 0) d) o 41)), .int (kSm r (pat (clR r 1) c) (pat (clR r 0) d) o 41), .int (kLs r (pat (clR r 1) c) (pat (clR r 0) d) o 41), .ref v1])), (s0, .inr (6, [.int (r 0), .ref s1, .ref s2, .ref s3, .ref s4, .int vn])), (s1, .inl (D.1 100, 16, .inl (sE r))), (s3, .inl (D.1 100, 5, .inl (sT r))), (s4, .inl (D.1 100, 64, .inl (sG r))), (l0, .inr (2, [.ref l1, .int (nI (clM r 0)), .ref l2, .ref l3])), (l1, .inl (D.1 100, 8, .inl (clA r 0))), (g0, .inr (2, [.ref g1, .int (nI (clM r 1)), .ref g2, .ref g3])), (g1, .inl (D.1 100, 8, .inl (clA r 1))), (v1, .inl (D.1 100, 41, .inl (tyA r (pat (clR r 1) c) (pat (clR r 0) d) 64)))]) hX dX4_isStrange_33 cw_X4_108 (ct_X4_survey  (by first | with_reducible assumption | assumption) (by first | with_reducible assumption | assumption) (by omega) (by omega) (by omega)) 0 5 [0, 1, 3, 4, 5, 6, 7, 8, 9] rfl rfl rfl rfl (by decide) rfl rfl ⟨by decide, by decide⟩ (Nat.le_of_ble_eq_true rfl) (Nat.le_refl _) (Nat.le_refl _) rfl ?_
    refine g_aload_n hX dX4_isStrange_36 rfl ?_
    refine g_iload_n hX dX4_isStrange_37 rfl ?_
    refine g_iload_n hX dX4_isStrange_38 rfl ?_
    refine g_callRi hX dX4_isStrange_39 cw_X4_112 (ct_X4_isLeftOut  (by first | with_reducible assumption | assumption) (by first | with_reducible assumption | assumption) (by omega) (by omega) (by omega) (by first | with_reducible assumption | assumption) (by first | with_reducible assumption | assumption) (cq_R r hc) (cq_L r hd)) 0 5 [0, 1, 3, 4] rfl rfl rfl rfl (by decide) rfl ⟨by decide, by decide⟩ (Nat.le_of_ble_eq_true rfl) (Nat.le_refl _) (Nat.le_refl _) ?_
    subst hQ
    exact g_zretU hX dX4_isStrange_42 (bI_nar _) ((nI (pat (clR r 1) c)), (nI (pat (clR r 0) d)), (nI (prN r (pat (clR r 1) c) (pat (clR r 0) d))), (nI (jdN r (pat (clR r 1) c) (pat (clR r 0) d))), (nI (kpN r (pat (clR r 1) c) (pat (clR r 0) d) o 41)), (kSm r (pat (clR r 1) c) (pat (clR r 0) d) o 41), (kLs r (pat (clR r 1) c) (pat (clR r 0) d) o 41), tyA r (pat (clR r 1) c) (pat (clR r 0) d) 64) (bR rfl) rfl (Nat.le_refl _) (Nat.le_refl _)
  · skip
    refine g_iconst hX dX4_isStrange_12 kn_i_0 ?_
    subst hQ
    exact g_zretU hX dX4_isStrange_13 (by exact bI_nar false) (cr, cf, pr, jd, kp, ks, kl, ta) (bR (str_0 h9)) rfl (Nat.le_refl _) (Nat.le_refl _)
set_option maxRecDepth 100000 in
set_option maxHeartbeats 4000000 in
theorem ct_X4_gapOfPair {l : Launch} {D : va_G} {v0 v1 s0 s1 s2 s3 s4 l0 l1 l2 l3 g0 g1 g2 g3 : Nat} {r : Nat → Int32} {vn sv : Int32} {cr cf pr jd kp ks kl : Int32} {c d o : Nat} {ta : Nat → Int32} (hw : okW r) (hg : okG r) (ho : r 2 = nI o) (ho2 : o ≤ 20) (hD : okD r) (hcap : 0 ≤ r 3) (hc : c < 8) (hd : d < 8) (kc : kn (r 0) c = true) (kd : kn (r 0) d = true) : Ct (S := Int32 × Int32 × Int32 × Int32 × Int32 × Int32 × Int32 × (Nat → Int32)) l D yX4_gapOfPair cX4_gapOfPair 3 (some .int) 5 133 0 0 [.ref v0, .int (nI c), .int (nI d)] [(v0, .inr (5, [.ref s0, .ref l0, .ref g0, .int sv, .int cr, .int cf, .int pr, .int jd, .int kp, .int ks, .int kl, .ref v1])), (s0, .inr (6, [.int (r 0), .ref s1, .ref s2, .ref s3, .ref s4, .int vn])), (s1, .inl (D.1 100, 16, .inl (sE r))), (s3, .inl (D.1 100, 5, .inl (sT r))), (s4, .inl (D.1 100, 64, .inl (sG r))), (l0, .inr (2, [.ref l1, .int (nI (clM r 0)), .ref l2, .ref l3])), (l1, .inl (D.1 100, 8, .inl (clA r 0))), (g0, .inr (2, [.ref g1, .int (nI (clM r 1)), .ref g2, .ref g3])), (g1, .inl (D.1 100, 8, .inl (clA r 1))), (v1, .inl (D.1 100, 41, .inl ta))] (fun (rv : Option Value) (u : Int32 × Int32 × Int32 × Int32 × Int32 × Int32 × Int32 × (Nat → Int32)) => match u with | (cr2, cf2, pr2, jd2, kp2, ks2, kl2, ta2) => rv = (some (.int (gapOf r (cq r) c d - nI 100)))) (fun (u : Int32 × Int32 × Int32 × Int32 × Int32 × Int32 × Int32 × (Nat → Int32)) => match u with | (cr2, cf2, pr2, jd2, kp2, ks2, kl2, ta2) => ([(v0, .inr (5, [.ref s0, .ref l0, .ref g0, .int sv, .int cr2, .int cf2, .int pr2, .int jd2, .int kp2, .int ks2, .int kl2, .ref v1])), (s0, .inr (6, [.int (r 0), .ref s1, .ref s2, .ref s3, .ref s4, .int vn])), (s1, .inl (D.1 100, 16, .inl (sE r))), (s3, .inl (D.1 100, 5, .inl (sT r))), (s4, .inl (D.1 100, 64, .inl (sG r))), (l0, .inr (2, [.ref l1, .int (nI (clM r 0)), .ref l2, .ref l3])), (l1, .inl (D.1 100, 8, .inl (clA r 0))), (g0, .inr (2, [.ref g1, .int (nI (clM r 1)), .ref g2, .ref g3])), (g1, .inl (D.1 100, 8, .inl (clA r 1))), (v1, .inl (D.1 100, 41, .inl ta2))] : va_W)) := by
  refine Ct.ofG (by decide) (Nat.le_of_ble_eq_true rfl) ?_
  intro X hX
  have hX : CX X l D RX4 "gapOfPair" cX4_gapOfPair 3 (some .int) 5 133 0 0 := hX
  show G X (QM X 0 0 (fun (rv : Option Value) (u : Int32 × Int32 × Int32 × Int32 × Int32 × Int32 × Int32 × (Nat → Int32)) => match u with | (cr2, cf2, pr2, jd2, kp2, ks2, kl2, ta2) => rv = (some (.int (gapOf r (cq r) c d - nI 100)))) (fun (u : Int32 × Int32 × Int32 × Int32 × Int32 × Int32 × Int32 × (Nat → Int32)) => match u with | (cr2, cf2, pr2, jd2, kp2, ks2, kl2, ta2) => ([(v0, .inr (5, [.ref s0, .ref l0, .ref g0, .int sv, .int cr2, .int cf2, .int pr2, .int jd2, .int kp2, .int ks2, .int kl2, .ref v1])), (s0, .inr (6, [.int (r 0), .ref s1, .ref s2, .ref s3, .ref s4, .int vn])), (s1, .inl (D.1 100, 16, .inl (sE r))), (s3, .inl (D.1 100, 5, .inl (sT r))), (s4, .inl (D.1 100, 64, .inl (sG r))), (l0, .inr (2, [.ref l1, .int (nI (clM r 0)), .ref l2, .ref l3])), (l1, .inl (D.1 100, 8, .inl (clA r 0))), (g0, .inr (2, [.ref g1, .int (nI (clM r 1)), .ref g2, .ref g3])), (g1, .inl (D.1 100, 8, .inl (clA r 1))), (v1, .inl (D.1 100, 41, .inl ta2))] : va_W))) [(v0, .inr (5, [.ref s0, .ref l0, .ref g0, .int sv, .int cr, .int cf, .int pr, .int jd, .int kp, .int ks, .int kl, .ref v1])), (s0, .inr (6, [.int (r 0), .ref s1, .ref s2, .ref s3, .ref s4, .int vn])), (s1, .inl (D.1 100, 16, .inl (sE r))), (s3, .inl (D.1 100, 5, .inl (sT r))), (s4, .inl (D.1 100, 64, .inl (sG r))), (l0, .inr (2, [.ref l1, .int (nI (clM r 0)), .ref l2, .ref l3])), (l1, .inl (D.1 100, 8, .inl (clA r 0))), (g0, .inr (2, [.ref g1, .int (nI (clM r 1)), .ref g2, .ref g3])), (g1, .inl (D.1 100, 8, .inl (clA r 1))), (v1, .inl (D.1 100, 41, .inl ta))] 0 0 0 [some (.ref v0), some (.int (nI c)), some (.int (nI d))] []
  generalize hQ : QM X 0 0 (fun (rv : Option Value) (u : Int32 × Int32 × Int32 × Int32 × Int32 × Int32 × Int32 × (Nat → Int32)) => match u with | (cr2, cf2, pr2, jd2, kp2, ks2, kl2, ta2) => rv = (some (.int (gapOf r (cq r) c d - nI 100)))) (fun (u : Int32 × Int32 × Int32 × Int32 × Int32 × Int32 × Int32 × (Nat → Int32)) => match u with | (cr2, cf2, pr2, jd2, kp2, ks2, kl2, ta2) => ([(v0, .inr (5, [.ref s0, .ref l0, .ref g0, .int sv, .int cr2, .int cf2, .int pr2, .int jd2, .int kp2, .int ks2, .int kl2, .ref v1])), (s0, .inr (6, [.int (r 0), .ref s1, .ref s2, .ref s3, .ref s4, .int vn])), (s1, .inl (D.1 100, 16, .inl (sE r))), (s3, .inl (D.1 100, 5, .inl (sT r))), (s4, .inl (D.1 100, 64, .inl (sG r))), (l0, .inr (2, [.ref l1, .int (nI (clM r 0)), .ref l2, .ref l3])), (l1, .inl (D.1 100, 8, .inl (clA r 0))), (g0, .inr (2, [.ref g1, .int (nI (clM r 1)), .ref g2, .ref g3])), (g1, .inl (D.1 100, 8, .inl (clA r 1))), (v1, .inl (D.1 100, 41, .inl ta2))] : va_W)) = Q
  refine g_aload_n hX dX4_gapOfPair_0 rfl ?_
  refine g_aload_n hX dX4_gapOfPair_1 rfl ?_
  refine g_getf hX dX4_gapOfPair_2 fk_X4_18 0 rfl rfl ?_
  refine g_getf hX dX4_gapOfPair_5 fk_X4_77 7 rfl rfl ?_
  refine g_iload_n hX dX4_gapOfPair_8 rfl ?_
  refine g_iald hX dX4_gapOfPair_9 8 rfl (by decide) (by omega) ?_
  refine g_top (v' := nI (pat (clR r 1) c)) (clA_n hc kc) ?_
  have hb1 := clR_lt8 (side := 1) hc kc
  refine g_aload_n hX dX4_gapOfPair_10 rfl ?_
  refine g_getf hX dX4_gapOfPair_11 fk_X4_12 0 rfl rfl ?_
  refine g_getf hX dX4_gapOfPair_14 fk_X4_77 5 rfl rfl ?_
  refine g_iload_n hX dX4_gapOfPair_17 rfl ?_
  refine g_iald hX dX4_gapOfPair_18 6 rfl (by decide) (by omega) ?_
  refine g_top (v' := nI (pat (clR r 0) d)) (clA_n hd kd) ?_
  have hb2 := clR_lt8 (side := 0) hd kd
  refine g_callFv (ws' := [(v0, .inr (5, [.ref s0, .ref l0, .ref g0, .int sv, .int (nI (pat (clR r 1) c)), .int (nI (pat (clR r 0) d)), .int (nI (prN r (pat (clR r 1) c) (pat (clR r 0) d))), .int (nI (jdN r (pat (clR r 1) c) (pat (clR r 0) d))), .int (nI (kpN r (pat (clR r 1) c) (pat (clR r 0) d) o 41)), .int (kSm r (pat (clR r 1) c) (pat (clR r 0) d) o 41), .int (kLs r (pat (clR r 1) c) (pat (clR r 0) d) o 41), .ref v1])), (s0, .inr (6, [.int (r 0), .ref s1, .ref s2, .ref s3, .ref s4, .int vn])), (s1, .inl (D.1 100, 16, .inl (sE r))), (s3, .inl (D.1 100, 5, .inl (sT r))), (s4, .inl (D.1 100, 64, .inl (sG r))), (l0, .inr (2, [.ref l1, .int (nI (clM r 0)), .ref l2, .ref l3])), (l1, .inl (D.1 100, 8, .inl (clA r 0))), (g0, .inr (2, [.ref g1, .int (nI (clM r 1)), .ref g2, .ref g3])), (g1, .inl (D.1 100, 8, .inl (clA r 1))), (v1, .inl (D.1 100, 41, .inl (tyA r (pat (clR r 1) c) (pat (clR r 0) d) 64)))]) hX dX4_gapOfPair_19 cw_X4_108 (ct_X4_survey  (by first | with_reducible assumption | assumption) (by first | with_reducible assumption | assumption) (by omega) (by omega) (by omega)) 0 5 [0, 1, 3, 4, 5, 6, 7, 8, 9] rfl rfl rfl rfl (by decide) rfl rfl ⟨by decide, by decide⟩ (Nat.le_of_ble_eq_true rfl) (Nat.le_refl _) (Nat.le_refl _) rfl ?_
  refine g_aload_n hX dX4_gapOfPair_22 rfl ?_
  refine g_iload_n hX dX4_gapOfPair_23 rfl ?_
  refine g_iload_n hX dX4_gapOfPair_24 rfl ?_
  refine g_callRi hX dX4_gapOfPair_25 cw_X4_112 (ct_X4_isLeftOut  (by first | with_reducible assumption | assumption) (by first | with_reducible assumption | assumption) (by omega) (by omega) (by omega) (by first | with_reducible assumption | assumption) (by first | with_reducible assumption | assumption) (cq_R r hc) (cq_L r hd)) 0 5 [0, 1, 3, 4] rfl rfl rfl rfl (by decide) rfl ⟨by decide, by decide⟩ (Nat.le_of_ble_eq_true rfl) (Nat.le_refl _) (Nat.le_refl _) ?_
  refine g_ifb_eq (tgt := 43) hX dX4_gapOfPair_28 (by decide) (fun h28 => ?_) (fun h28 => ?_)
  · skip
    refine g_aload_n hX dX4_gapOfPair_43 rfl ?_
    refine g_callRi hX dX4_gapOfPair_44 cw_X4_115 (ct_X4_gapOfCell  (by first | with_reducible assumption | assumption) (by first | with_reducible assumption | assumption) (by first | with_reducible assumption | assumption) (by omega) (by first | with_reducible assumption | assumption) (by omega) (by omega) (by omega) (pt_pos hg ho ho2 (k := 8 * c + d) (by omega) (own_in hd kc kd (cq_R r hc) (cq_L r hd)))) 0 5 [0, 1, 2, 3, 5, 6, 7, 8] rfl rfl rfl rfl (by decide) rfl ⟨by decide, by decide⟩ (Nat.le_of_ble_eq_true rfl) (Nat.le_refl _) (Nat.le_refl _) ?_
    subst hQ
    exact g_zretU hX dX4_gapOfPair_47 (vp_nar_int _) ((nI (pat (clR r 1) c)), (nI (pat (clR r 0) d)), (nI (prN r (pat (clR r 1) c) (pat (clR r 0) d))), (nI (jdN r (pat (clR r 1) c) (pat (clR r 0) d))), (nI (kpN r (pat (clR r 1) c) (pat (clR r 0) d) o 41)), (kSm r (pat (clR r 1) c) (pat (clR r 0) d) o 41), (kLs r (pat (clR r 1) c) (pat (clR r 0) d) o 41), tyA r (pat (clR r 1) c) (pat (clR r 0) d) 64) (iR (gap_n h28 (cq_R r hc) (cq_L r hd))) rfl (Nat.le_refl _) (Nat.le_refl _)
  · skip
    refine g_aload_n hX dX4_gapOfPair_31 rfl ?_
    refine g_getf hX dX4_gapOfPair_32 fk_X4_50 0 rfl rfl ?_
    refine g_iload_n hX dX4_gapOfPair_35 rfl ?_
    refine g_iload_n hX dX4_gapOfPair_36 rfl ?_
    refine g_callRi hX dX4_gapOfPair_37 cw_X4_70 (ct_X5_judgedGap  (by omega) (by omega)) 1 6 [1, 4] rfl rfl rfl rfl (by decide) rfl ⟨by decide, by decide⟩ (Nat.le_of_ble_eq_true rfl) (Nat.le_refl _) (Nat.le_refl _) ?_
    refine g_goto (tgt := 47) hX dX4_gapOfPair_40 (by decide) ?_
    subst hQ
    exact g_zretU hX dX4_gapOfPair_47 (vp_nar_int _) ((nI (pat (clR r 1) c)), (nI (pat (clR r 0) d)), (nI (prN r (pat (clR r 1) c) (pat (clR r 0) d))), (nI (jdN r (pat (clR r 1) c) (pat (clR r 0) d))), (nI (kpN r (pat (clR r 1) c) (pat (clR r 0) d) o 41)), (kSm r (pat (clR r 1) c) (pat (clR r 0) d) o 41), (kLs r (pat (clR r 1) c) (pat (clR r 0) d) o 41), tyA r (pat (clR r 1) c) (pat (clR r 0) d) 64) (iR (gap_s h28)) rfl (Nat.le_refl _) (Nat.le_refl _)
