set_option maxRecDepth 100000 in
set_option maxHeartbeats 4000000 in
theorem ct_X6_isSide {l : Launch} {D : va_G} {x : Int32}  : Cf l D yX6_isSide cX6_isSide 1 (some .boolean) 0 0 [.int x] [] (some (.int (bI (inB x.toInt64 0 1)))) [] := by
  refine Ct.ofG (by decide) (Nat.le_of_ble_eq_true rfl) ?_
  intro X hX
  have hX : CX X l D RX6 "isSide" cX6_isSide 1 (some .boolean) 0 0 0 0 := hX
  show G X (QF X (some (.int (bI (inB x.toInt64 0 1)))) []) [] 0 0 0 [some (.int x)] []
  generalize hQ : QF X (some (.int (bI (inB x.toInt64 0 1)))) [] = Q
  refine g_iload_n hX dX6_isSide_0 rfl ?_
  refine g_if_eq (tgt := 9) hX dX6_isSide_1 (by decide) (fun h1 => ?_) (fun h1 => ?_)
  · skip
    refine g_iconst hX dX6_isSide_9 kn_i_1 ?_
    refine g_goto (tgt := 14) hX dX6_isSide_10 (by decide) ?_
    subst hQ
    exact g_zret true hX dX6_isSide_14 (by decide) (bR (by rw [h1]; rfl)) (rfl) rfl rfl
  · skip
    refine g_iload_n hX dX6_isSide_4 rfl ?_
    refine g_iconst hX dX6_isSide_5 kn_i_1 ?_
    refine g_icmp_ne (tgt := 13) hX dX6_isSide_6 (by decide) (fun h6 => ?_) (fun h6 => ?_)
    · skip
      refine g_iconst hX dX6_isSide_13 kn_i_0 ?_
      subst hQ
      exact g_zret false hX dX6_isSide_14 (by decide) (bR (side_no h1 h6)) (rfl) rfl rfl
    · skip
      refine g_iconst hX dX6_isSide_9 kn_i_1 ?_
      refine g_goto (tgt := 14) hX dX6_isSide_10 (by decide) ?_
      subst hQ
      exact g_zret true hX dX6_isSide_14 (by decide) (bR (by rw [h6]; rfl)) (rfl) rfl rfl
set_option maxRecDepth 100000 in
set_option maxHeartbeats 4000000 in
theorem ct_X6_isEdge {l : Launch} {D : va_G} {x : Int32}  : Cf l D yX6_isEdge cX6_isEdge 1 (some .boolean) 0 0 [.int x] [] (some (.int (bI (inB x.toInt64 0 99999)))) [] := by
  refine Ct.ofG (by decide) (Nat.le_of_ble_eq_true rfl) ?_
  intro X hX
  have hX : CX X l D RX6 "isEdge" cX6_isEdge 1 (some .boolean) 0 0 0 0 := hX
  show G X (QF X (some (.int (bI (inB x.toInt64 0 99999)))) []) [] 0 0 0 [some (.int x)] []
  generalize hQ : QF X (some (.int (bI (inB x.toInt64 0 99999)))) [] = Q
  refine g_iload_n hX dX6_isEdge_0 rfl ?_
  refine g_if_lt (tgt := 14) hX dX6_isEdge_1 (by decide) (fun h1 => ?_) (fun h1 => ?_)
  · skip
    refine g_iconst hX dX6_isEdge_14 kn_i_0 ?_
    subst hQ
    exact g_zret false hX dX6_isEdge_15 (by decide) (bR (by rw [inB_z]; simp only [Int32.lt_iff_toInt_lt] at *; simp; simp at *; omega)) (rfl) rfl rfl
  · skip
    refine g_iload_n hX dX6_isEdge_4 rfl ?_
    refine g_ldc hX dX6_isEdge_5 kc_X6_252 ?_
    refine g_icmp_gt (tgt := 14) hX dX6_isEdge_7 (by decide) (fun h7 => ?_) (fun h7 => ?_)
    · skip
      refine g_iconst hX dX6_isEdge_14 kn_i_0 ?_
      subst hQ
      exact g_zret false hX dX6_isEdge_15 (by decide) (bR (by rw [inB_z]; simp only [Int32.lt_iff_toInt_lt] at *; simp; simp at *; omega)) (rfl) rfl rfl
    · skip
      refine g_iconst hX dX6_isEdge_10 kn_i_1 ?_
      refine g_goto (tgt := 15) hX dX6_isEdge_11 (by decide) ?_
      subst hQ
      exact g_zret true hX dX6_isEdge_15 (by decide) (bR (by rw [inB_z]; simp only [Int32.lt_iff_toInt_lt] at *; simp; simp at *; omega)) (rfl) rfl rfl
set_option maxRecDepth 100000 in
set_option maxHeartbeats 4000000 in
theorem ct_X6_edge {l : Launch} {D : va_G} {z0 s0 s1 s2 s3 s4 v0 d0 y0 b0 i0 i1 i2 i3 u : Nat} {r : Nat → Int32} {sd : Int32} {c side h : Int32} (hD : okD r) : Cf l D yX6_edge cX6_edge 4 (some .int) 1 23 [.ref z0, .int c, .int side, .int h] [(z0, .inr (7, [.ref s0, .ref v0, .ref d0, .ref y0, .ref b0, .ref i0, .ref i1, .ref i2, .ref i3, .int sd])), (s0, .inr (6, [.int (r 0), .ref s1, .ref s2, .ref s3, .ref s4, .int (nI u)])), (s1, .inl (D.1 100, 16, .inl (sE r)))] (some (.int (edgeV r c side h))) [(z0, .inr (7, [.ref s0, .ref v0, .ref d0, .ref y0, .ref b0, .ref i0, .ref i1, .ref i2, .ref i3, .int sd])), (s0, .inr (6, [.int (r 0), .ref s1, .ref s2, .ref s3, .ref s4, .int (nI u)])), (s1, .inl (D.1 100, 16, .inl (sE r)))] := by
  refine Ct.ofG (by decide) (Nat.le_of_ble_eq_true rfl) ?_
  intro X hX
  have hX : CX X l D RX6 "edge" cX6_edge 4 (some .int) 1 23 0 0 := hX
  show G X (QF X (some (.int (edgeV r c side h))) [(z0, .inr (7, [.ref s0, .ref v0, .ref d0, .ref y0, .ref b0, .ref i0, .ref i1, .ref i2, .ref i3, .int sd])), (s0, .inr (6, [.int (r 0), .ref s1, .ref s2, .ref s3, .ref s4, .int (nI u)])), (s1, .inl (D.1 100, 16, .inl (sE r)))]) [(z0, .inr (7, [.ref s0, .ref v0, .ref d0, .ref y0, .ref b0, .ref i0, .ref i1, .ref i2, .ref i3, .int sd])), (s0, .inr (6, [.int (r 0), .ref s1, .ref s2, .ref s3, .ref s4, .int (nI u)])), (s1, .inl (D.1 100, 16, .inl (sE r)))] 0 0 0 [some (.ref z0), some (.int c), some (.int side), some (.int h)] []
  generalize hQ : QF X (some (.int (edgeV r c side h))) [(z0, .inr (7, [.ref s0, .ref v0, .ref d0, .ref y0, .ref b0, .ref i0, .ref i1, .ref i2, .ref i3, .int sd])), (s0, .inr (6, [.int (r 0), .ref s1, .ref s2, .ref s3, .ref s4, .int (nI u)])), (s1, .inl (D.1 100, 16, .inl (sE r)))] = Q
  refine g_aload_n hX dX6_edge_0 rfl ?_
  refine g_getf hX dX6_edge_1 fk_X6_10 0 rfl rfl ?_
  refine g_iload_n hX dX6_edge_4 rfl ?_
  refine g_callRi hX dX6_edge_5 cw_X6_135 ct_X5_knows 1 6 [1] rfl rfl rfl rfl (by decide) rfl ⟨by decide, by decide⟩ (Nat.le_of_ble_eq_true rfl) (Nat.le_refl _) (Nat.le_refl _) ?_
  refine g_ifb_ne (tgt := 14) hX dX6_edge_8 (by decide) (fun h8 => ?_) (fun h8 => ?_)
  · skip
    obtain ⟨c1, hc1, ec1, kc1⟩ := isKn_in h8
    subst ec1
    refine g_iload_n hX dX6_edge_14 rfl ?_
    refine g_callSRi hX dX6_edge_15 cw_X6_139 ct_X6_isSide [] rfl rfl (by decide) rfl ⟨by decide, by decide⟩ (Nat.le_of_ble_eq_true rfl) (Nat.le_refl _) (Nat.le_refl _) ?_
    refine g_ifb_eq (tgt := 30) hX dX6_edge_18 (by decide) (fun h18 => ?_) (fun h18 => ?_)
    · skip
      refine g_ldc hX dX6_edge_30 kc_X6_65 ?_
      subst hQ
      exact g_iret hX dX6_edge_32 (iR (edgeV_bad (by rw [isKn_n hc1]; exact kc1) (by rw [h18]; rfl))) (rfl) rfl rfl
    · skip
      refine g_iload_n hX dX6_edge_21 rfl ?_
      refine g_if_lt (tgt := 30) hX dX6_edge_22 (by decide) (fun h22 => ?_) (fun h22 => ?_)
      · skip
        refine g_ldc hX dX6_edge_30 kc_X6_65 ?_
        subst hQ
        exact g_iret hX dX6_edge_32 (iR (edgeV_bad (by rw [isKn_n hc1]; exact kc1) (by rw [h18, h4_lo h22]; rfl))) (rfl) rfl rfl
      · skip
        refine g_iload_n hX dX6_edge_25 rfl ?_
        refine g_iconst hX dX6_edge_26 kn_i_5 ?_
        refine g_icmp_lt (tgt := 33) hX dX6_edge_27 (by decide) (fun h27 => ?_) (fun h27 => ?_)
        · skip
          obtain ⟨s9, hs9, es9⟩ := inT (n := 1) (by decide) h18
          subst es9
          obtain ⟨t9, ht9, et9⟩ := rng_lt (m := 5) (by omega) h22 h27
          subst et9
          refine g_aload_n hX dX6_edge_33 rfl ?_
          refine g_getf hX dX6_edge_34 fk_X6_10 0 rfl rfl ?_
          refine g_iload_n hX dX6_edge_37 rfl ?_
          refine g_iload_n hX dX6_edge_38 rfl ?_
          refine g_iload_n hX dX6_edge_39 rfl ?_
          refine g_callRi hX dX6_edge_40 cw_X6_142 (ct_X5_figure  (by first | with_reducible assumption | assumption) (by omega) (by omega) (by omega)) 1 6 [1, 2] rfl rfl rfl rfl (by decide) rfl ⟨by decide, by decide⟩ (Nat.le_of_ble_eq_true rfl) (Nat.le_refl _) (Nat.le_refl _) ?_
          subst hQ
          exact g_iret hX dX6_edge_43 (iR (edgeV_ok hc1 kc1 (by omega) (by omega))) (rfl) rfl rfl
        · skip
          refine g_ldc hX dX6_edge_30 kc_X6_65 ?_
          subst hQ
          exact g_iret hX dX6_edge_32 (iR (edgeV_bad (by rw [isKn_n hc1]; exact kc1) (by rw [h18, h4_hi h27]; rfl))) (rfl) rfl rfl
  · skip
    refine g_ldc hX dX6_edge_11 kc_X6_138 ?_
    subst hQ
    exact g_iret hX dX6_edge_13 (iR (edgeV_no h8)) (rfl) rfl rfl
set_option maxRecDepth 100000 in
set_option maxHeartbeats 4000000 in
theorem ct_X6_far {l : Launch} {D : va_G} {z0 s0 s1 s2 s3 s4 v0 d0 y0 b0 i0 i1 i2 i3 u : Nat} {r : Nat → Int32} {sd : Int32} {c d side : Int32} (hD : okD r) : Cf l D yX6_far cX6_far 4 (some .int) 2 68 [.ref z0, .int c, .int d, .int side] [(z0, .inr (7, [.ref s0, .ref v0, .ref d0, .ref y0, .ref b0, .ref i0, .ref i1, .ref i2, .ref i3, .int sd])), (s0, .inr (6, [.int (r 0), .ref s1, .ref s2, .ref s3, .ref s4, .int (nI u)])), (s1, .inl (D.1 100, 16, .inl (sE r))), (s3, .inl (D.1 100, 5, .inl (sT r)))] (some (.int (farV r c d side))) [(z0, .inr (7, [.ref s0, .ref v0, .ref d0, .ref y0, .ref b0, .ref i0, .ref i1, .ref i2, .ref i3, .int sd])), (s0, .inr (6, [.int (r 0), .ref s1, .ref s2, .ref s3, .ref s4, .int (nI u)])), (s1, .inl (D.1 100, 16, .inl (sE r))), (s3, .inl (D.1 100, 5, .inl (sT r)))] := by
  refine Ct.ofG (by decide) (Nat.le_of_ble_eq_true rfl) ?_
  intro X hX
  have hX : CX X l D RX6 "far" cX6_far 4 (some .int) 2 68 0 0 := hX
  show G X (QF X (some (.int (farV r c d side))) [(z0, .inr (7, [.ref s0, .ref v0, .ref d0, .ref y0, .ref b0, .ref i0, .ref i1, .ref i2, .ref i3, .int sd])), (s0, .inr (6, [.int (r 0), .ref s1, .ref s2, .ref s3, .ref s4, .int (nI u)])), (s1, .inl (D.1 100, 16, .inl (sE r))), (s3, .inl (D.1 100, 5, .inl (sT r)))]) [(z0, .inr (7, [.ref s0, .ref v0, .ref d0, .ref y0, .ref b0, .ref i0, .ref i1, .ref i2, .ref i3, .int sd])), (s0, .inr (6, [.int (r 0), .ref s1, .ref s2, .ref s3, .ref s4, .int (nI u)])), (s1, .inl (D.1 100, 16, .inl (sE r))), (s3, .inl (D.1 100, 5, .inl (sT r)))] 0 0 0 [some (.ref z0), some (.int c), some (.int d), some (.int side)] []
  generalize hQ : QF X (some (.int (farV r c d side))) [(z0, .inr (7, [.ref s0, .ref v0, .ref d0, .ref y0, .ref b0, .ref i0, .ref i1, .ref i2, .ref i3, .int sd])), (s0, .inr (6, [.int (r 0), .ref s1, .ref s2, .ref s3, .ref s4, .int (nI u)])), (s1, .inl (D.1 100, 16, .inl (sE r))), (s3, .inl (D.1 100, 5, .inl (sT r)))] = Q
  refine g_aload_n hX dX6_far_0 rfl ?_
  refine g_getf hX dX6_far_1 fk_X6_10 0 rfl rfl ?_
  refine g_iload_n hX dX6_far_4 rfl ?_
  refine g_iload_n hX dX6_far_5 rfl ?_
  refine g_callRi hX dX6_far_6 cw_X6_152 ct_X5_knowsBoth 1 6 [1] rfl rfl rfl rfl (by decide) rfl ⟨by decide, by decide⟩ (Nat.le_of_ble_eq_true rfl) (Nat.le_refl _) (Nat.le_refl _) ?_
  refine g_ifb_ne (tgt := 15) hX dX6_far_9 (by decide) (fun h9 => ?_) (fun h9 => ?_)
  · skip
    obtain ⟨kk1, kk2⟩ := (Bool.and_eq_true _ _).mp h9
    obtain ⟨c1, hc1, ec1, kc1⟩ := isKn_in kk1
    subst ec1
    obtain ⟨d1, hd1, ed1, kd1⟩ := isKn_in kk2
    subst ed1
    refine g_iload_n hX dX6_far_15 rfl ?_
    refine g_callSRi hX dX6_far_16 cw_X6_139 ct_X6_isSide [] rfl rfl (by decide) rfl ⟨by decide, by decide⟩ (Nat.le_of_ble_eq_true rfl) (Nat.le_refl _) (Nat.le_refl _) ?_
    refine g_ifb_eq (tgt := 35) hX dX6_far_19 (by decide) (fun h19 => ?_) (fun h19 => ?_)
    · skip
      refine g_ldc hX dX6_far_35 kc_X6_65 ?_
      subst hQ
      exact g_iret hX dX6_far_37 (iR (farV_bad hc1 hd1 kc1 kd1 h19)) (rfl) rfl rfl
    · skip
      have hb19 := h19
      obtain ⟨s9, hs9, es9⟩ := inT (n := 1) (by decide) h19
      subst es9
      refine g_aload_n hX dX6_far_22 rfl ?_
      refine g_getf hX dX6_far_23 fk_X6_10 0 rfl rfl ?_
      refine g_iload_n hX dX6_far_26 rfl ?_
      refine g_iload_n hX dX6_far_27 rfl ?_
      refine g_iload_n hX dX6_far_28 rfl ?_
      refine g_callRi hX dX6_far_29 cw_X6_156 (ct_X5_apart  (by first | with_reducible assumption | assumption) (by omega) (by omega) (by omega)) 1 6 [1, 2, 3] rfl rfl rfl rfl (by decide) rfl ⟨by decide, by decide⟩ (Nat.le_of_ble_eq_true rfl) (Nat.le_refl _) (Nat.le_refl _) ?_
      refine g_goto (tgt := 37) hX dX6_far_32 (by decide) ?_
      subst hQ
      exact g_iret hX dX6_far_37 (iR (farV_ok hc1 hd1 kc1 kd1 hb19 (by omega))) (rfl) rfl rfl
  · skip
    refine g_ldc hX dX6_far_12 kc_X6_138 ?_
    subst hQ
    exact g_iret hX dX6_far_14 (iR (farV_no h9)) (rfl) rfl rfl
set_option maxRecDepth 100000 in
set_option maxHeartbeats 4000000 in
theorem ct_X6_at {l : Launch} {D : va_G} {z0 s0 s1 s2 s3 s4 v0 v1 l0 l1 l2 l3 g0 g1 g2 g3 d0 y0 b0 i0 i1 i2 i3 u o : Nat} {r cA lA mA cB lB mB ta : Nat → Int32} {sv ctA ctB cr cf pr jd kp ks kl sd : Int32} {c what : Int32} (hw : okW r) (hg : okG r) (ho : r 2 = nI o) (ho2 : o ≤ 20) (hD : okD r) (hcap : 0 ≤ r 3) (hlk : 0 ≤ r 1) (hsg : sgP r u sv cA ctA cB ctB) : Ct (S := Int32 × Int32 × Int32 × Int32 × Int32 × Int32 × Int32 × Int32 × Int32 × Int32 × (Nat → Int32) × (Nat → Int32) × (Nat → Int32) × (Nat → Int32) × (Nat → Int32) × (Nat → Int32) × (Nat → Int32)) l D yX6_at cX6_at 3 (some .int) 11 259 0 0 [.ref z0, .int c, .int what] [(z0, .inr (7, [.ref s0, .ref v0, .ref d0, .ref y0, .ref b0, .ref i0, .ref i1, .ref i2, .ref i3, .int sd])), (s0, .inr (6, [.int (r 0), .ref s1, .ref s2, .ref s3, .ref s4, .int (nI u)])), (s1, .inl (D.1 100, 16, .inl (sE r))), (s2, .inl (D.1 100, 8, .inl (sB r))), (s3, .inl (D.1 100, 5, .inl (sT r))), (v0, .inr (5, [.ref s0, .ref l0, .ref g0, .int sv, .int cr, .int cf, .int pr, .int jd, .int kp, .int ks, .int kl, .ref v1])), (l0, .inr (2, [.ref l1, .int ctA, .ref l2, .ref l3])), (l1, .inl (D.1 100, 8, .inl cA)), (l2, .inl (D.1 100, 8, .inl lA)), (l3, .inl (D.1 100, 8, .inl mA)), (g0, .inr (2, [.ref g1, .int ctB, .ref g2, .ref g3])), (g1, .inl (D.1 100, 8, .inl cB)), (g2, .inl (D.1 100, 8, .inl lB)), (g3, .inl (D.1 100, 8, .inl mB)), (v1, .inl (D.1 100, 41, .inl ta))] (fun (rv : Option Value) (ugh : Int32 × Int32 × Int32 × Int32 × Int32 × Int32 × Int32 × Int32 × Int32 × Int32 × (Nat → Int32) × (Nat → Int32) × (Nat → Int32) × (Nat → Int32) × (Nat → Int32) × (Nat → Int32) × (Nat → Int32)) => match ugh with | (sv2, cr2, cf2, pr2, jd2, kp2, ks2, kl2, ctA2, ctB2, cA2, lA2, mA2, cB2, lB2, mB2, ta2) => rv = (some (.int (atV r c what))) ∧ (sgP r u sv2 cA2 ctA2 cB2 ctB2)) (fun (ugh : Int32 × Int32 × Int32 × Int32 × Int32 × Int32 × Int32 × Int32 × Int32 × Int32 × (Nat → Int32) × (Nat → Int32) × (Nat → Int32) × (Nat → Int32) × (Nat → Int32) × (Nat → Int32) × (Nat → Int32)) => match ugh with | (sv2, cr2, cf2, pr2, jd2, kp2, ks2, kl2, ctA2, ctB2, cA2, lA2, mA2, cB2, lB2, mB2, ta2) => ([(z0, .inr (7, [.ref s0, .ref v0, .ref d0, .ref y0, .ref b0, .ref i0, .ref i1, .ref i2, .ref i3, .int sd])), (s0, .inr (6, [.int (r 0), .ref s1, .ref s2, .ref s3, .ref s4, .int (nI u)])), (s1, .inl (D.1 100, 16, .inl (sE r))), (s2, .inl (D.1 100, 8, .inl (sB r))), (s3, .inl (D.1 100, 5, .inl (sT r))), (v0, .inr (5, [.ref s0, .ref l0, .ref g0, .int sv2, .int cr2, .int cf2, .int pr2, .int jd2, .int kp2, .int ks2, .int kl2, .ref v1])), (l0, .inr (2, [.ref l1, .int ctA2, .ref l2, .ref l3])), (l1, .inl (D.1 100, 8, .inl cA2)), (l2, .inl (D.1 100, 8, .inl lA2)), (l3, .inl (D.1 100, 8, .inl mA2)), (g0, .inr (2, [.ref g1, .int ctB2, .ref g2, .ref g3])), (g1, .inl (D.1 100, 8, .inl cB2)), (g2, .inl (D.1 100, 8, .inl lB2)), (g3, .inl (D.1 100, 8, .inl mB2)), (v1, .inl (D.1 100, 41, .inl ta2))] : va_W)) := by
  refine Ct.ofG (by decide) (Nat.le_of_ble_eq_true rfl) ?_
  intro X hX
  have hX : CX X l D RX6 "at" cX6_at 3 (some .int) 11 259 0 0 := hX
  show G X (QM X 0 0 (fun (rv : Option Value) (ugh : Int32 × Int32 × Int32 × Int32 × Int32 × Int32 × Int32 × Int32 × Int32 × Int32 × (Nat → Int32) × (Nat → Int32) × (Nat → Int32) × (Nat → Int32) × (Nat → Int32) × (Nat → Int32) × (Nat → Int32)) => match ugh with | (sv2, cr2, cf2, pr2, jd2, kp2, ks2, kl2, ctA2, ctB2, cA2, lA2, mA2, cB2, lB2, mB2, ta2) => rv = (some (.int (atV r c what))) ∧ (sgP r u sv2 cA2 ctA2 cB2 ctB2)) (fun (ugh : Int32 × Int32 × Int32 × Int32 × Int32 × Int32 × Int32 × Int32 × Int32 × Int32 × (Nat → Int32) × (Nat → Int32) × (Nat → Int32) × (Nat → Int32) × (Nat → Int32) × (Nat → Int32) × (Nat → Int32)) => match ugh with | (sv2, cr2, cf2, pr2, jd2, kp2, ks2, kl2, ctA2, ctB2, cA2, lA2, mA2, cB2, lB2, mB2, ta2) => ([(z0, .inr (7, [.ref s0, .ref v0, .ref d0, .ref y0, .ref b0, .ref i0, .ref i1, .ref i2, .ref i3, .int sd])), (s0, .inr (6, [.int (r 0), .ref s1, .ref s2, .ref s3, .ref s4, .int (nI u)])), (s1, .inl (D.1 100, 16, .inl (sE r))), (s2, .inl (D.1 100, 8, .inl (sB r))), (s3, .inl (D.1 100, 5, .inl (sT r))), (v0, .inr (5, [.ref s0, .ref l0, .ref g0, .int sv2, .int cr2, .int cf2, .int pr2, .int jd2, .int kp2, .int ks2, .int kl2, .ref v1])), (l0, .inr (2, [.ref l1, .int ctA2, .ref l2, .ref l3])), (l1, .inl (D.1 100, 8, .inl cA2)), (l2, .inl (D.1 100, 8, .inl lA2)), (l3, .inl (D.1 100, 8, .inl mA2)), (g0, .inr (2, [.ref g1, .int ctB2, .ref g2, .ref g3])), (g1, .inl (D.1 100, 8, .inl cB2)), (g2, .inl (D.1 100, 8, .inl lB2)), (g3, .inl (D.1 100, 8, .inl mB2)), (v1, .inl (D.1 100, 41, .inl ta2))] : va_W))) [(z0, .inr (7, [.ref s0, .ref v0, .ref d0, .ref y0, .ref b0, .ref i0, .ref i1, .ref i2, .ref i3, .int sd])), (s0, .inr (6, [.int (r 0), .ref s1, .ref s2, .ref s3, .ref s4, .int (nI u)])), (s1, .inl (D.1 100, 16, .inl (sE r))), (s2, .inl (D.1 100, 8, .inl (sB r))), (s3, .inl (D.1 100, 5, .inl (sT r))), (v0, .inr (5, [.ref s0, .ref l0, .ref g0, .int sv, .int cr, .int cf, .int pr, .int jd, .int kp, .int ks, .int kl, .ref v1])), (l0, .inr (2, [.ref l1, .int ctA, .ref l2, .ref l3])), (l1, .inl (D.1 100, 8, .inl cA)), (l2, .inl (D.1 100, 8, .inl lA)), (l3, .inl (D.1 100, 8, .inl mA)), (g0, .inr (2, [.ref g1, .int ctB, .ref g2, .ref g3])), (g1, .inl (D.1 100, 8, .inl cB)), (g2, .inl (D.1 100, 8, .inl lB)), (g3, .inl (D.1 100, 8, .inl mB)), (v1, .inl (D.1 100, 41, .inl ta))] 0 0 0 [some (.ref z0), some (.int c), some (.int what)] []
  generalize hQ : QM X 0 0 (fun (rv : Option Value) (ugh : Int32 × Int32 × Int32 × Int32 × Int32 × Int32 × Int32 × Int32 × Int32 × Int32 × (Nat → Int32) × (Nat → Int32) × (Nat → Int32) × (Nat → Int32) × (Nat → Int32) × (Nat → Int32) × (Nat → Int32)) => match ugh with | (sv2, cr2, cf2, pr2, jd2, kp2, ks2, kl2, ctA2, ctB2, cA2, lA2, mA2, cB2, lB2, mB2, ta2) => rv = (some (.int (atV r c what))) ∧ (sgP r u sv2 cA2 ctA2 cB2 ctB2)) (fun (ugh : Int32 × Int32 × Int32 × Int32 × Int32 × Int32 × Int32 × Int32 × Int32 × Int32 × (Nat → Int32) × (Nat → Int32) × (Nat → Int32) × (Nat → Int32) × (Nat → Int32) × (Nat → Int32) × (Nat → Int32)) => match ugh with | (sv2, cr2, cf2, pr2, jd2, kp2, ks2, kl2, ctA2, ctB2, cA2, lA2, mA2, cB2, lB2, mB2, ta2) => ([(z0, .inr (7, [.ref s0, .ref v0, .ref d0, .ref y0, .ref b0, .ref i0, .ref i1, .ref i2, .ref i3, .int sd])), (s0, .inr (6, [.int (r 0), .ref s1, .ref s2, .ref s3, .ref s4, .int (nI u)])), (s1, .inl (D.1 100, 16, .inl (sE r))), (s2, .inl (D.1 100, 8, .inl (sB r))), (s3, .inl (D.1 100, 5, .inl (sT r))), (v0, .inr (5, [.ref s0, .ref l0, .ref g0, .int sv2, .int cr2, .int cf2, .int pr2, .int jd2, .int kp2, .int ks2, .int kl2, .ref v1])), (l0, .inr (2, [.ref l1, .int ctA2, .ref l2, .ref l3])), (l1, .inl (D.1 100, 8, .inl cA2)), (l2, .inl (D.1 100, 8, .inl lA2)), (l3, .inl (D.1 100, 8, .inl mA2)), (g0, .inr (2, [.ref g1, .int ctB2, .ref g2, .ref g3])), (g1, .inl (D.1 100, 8, .inl cB2)), (g2, .inl (D.1 100, 8, .inl lB2)), (g3, .inl (D.1 100, 8, .inl mB2)), (v1, .inl (D.1 100, 41, .inl ta2))] : va_W)) = Q
  refine g_aload_n hX dX6_at_0 rfl ?_
  refine g_getf hX dX6_at_1 fk_X6_10 0 rfl rfl ?_
  refine g_iload_n hX dX6_at_4 rfl ?_
  refine g_callRi hX dX6_at_5 cw_X6_135 ct_X5_knows 1 6 [1] rfl rfl rfl rfl (by decide) rfl ⟨by decide, by decide⟩ (Nat.le_of_ble_eq_true rfl) (Nat.le_refl _) (Nat.le_refl _) ?_
  refine g_ifb_ne (tgt := 14) hX dX6_at_8 (by decide) (fun h8 => ?_) (fun h8 => ?_)
  · skip
    obtain ⟨c1, hc1, ec1, kc1⟩ := isKn_in h8
    subst ec1
    refine g_aload_n hX dX6_at_14 rfl ?_
    refine g_getf hX dX6_at_15 fk_X6_21 0 rfl rfl ?_
    refine g_call hX dX6_at_18 cw_X6_95 (ct_X4_settle  (by first | with_reducible assumption | assumption) hlk hsg.2) 5 5 [5, 1, 2, 4, 6, 7, 8, 9, 10, 11, 12, 13] rfl rfl rfl rfl (by decide) rfl (fun ⟨_, _, _, _⟩ => rfl) ⟨by decide, by decide⟩ (Nat.le_of_ble_eq_true rfl) ⟨Nat.le_refl _, Nat.le_refl _⟩ (fun vgh ugh hp => ?_)
    obtain ⟨lC18, mC18, lE18, mE18⟩ := ugh
    obtain ⟨rfl⟩ := hp
    show G X Q [(z0, .inr (7, [.ref s0, .ref v0, .ref d0, .ref y0, .ref b0, .ref i0, .ref i1, .ref i2, .ref i3, .int sd])), (s0, .inr (6, [.int (r 0), .ref s1, .ref s2, .ref s3, .ref s4, .int (nI u)])), (s1, .inl (D.1 100, 16, .inl (sE r))), (s2, .inl (D.1 100, 8, .inl (sB r))), (s3, .inl (D.1 100, 5, .inl (sT r))), (v0, .inr (5, [.ref s0, .ref l0, .ref g0, .int (nI u), .int cr, .int cf, .int pr, .int jd, .int kp, .int ks, .int kl, .ref v1])), (l0, .inr (2, [.ref l1, .int (nI (clM r 0)), .ref l2, .ref l3])), (l1, .inl (D.1 100, 8, .inl (clA r 0))), (l2, .inl (D.1 100, 8, .inl lC18)), (l3, .inl (D.1 100, 8, .inl mC18)), (g0, .inr (2, [.ref g1, .int (nI (clM r 1)), .ref g2, .ref g3])), (g1, .inl (D.1 100, 8, .inl (clA r 1))), (g2, .inl (D.1 100, 8, .inl lE18)), (g3, .inl (D.1 100, 8, .inl mE18)), (v1, .inl (D.1 100, 41, .inl ta))] 0 0 21 [some (.ref z0), some (.int (nI c1)), some (.int what)] []
    refine g_iload_n hX dX6_at_21 rfl ?_
    by_cases hs22_0 : what = nI 0
    · subst hs22_0
      refine g_tswj (tgt := 48) hX dX6_at_22 0 rfl (by decide) rfl (by decide) ?_
      refine g_aload_n hX dX6_at_48 rfl ?_
      refine g_getf hX dX6_at_49 fk_X6_10 0 rfl rfl ?_
      refine g_getf hX dX6_at_52 fk_X6_146 1 rfl rfl ?_
      refine g_iload_n hX dX6_at_55 rfl ?_
      refine g_iald hX dX6_at_56 3 rfl (by decide) (by omega) ?_
      subst hQ
      exact g_zretU hX dX6_at_57 (vp_nar_int _) ((nI u), cr, cf, pr, jd, kp, ks, kl, (nI (clM r 0)), (nI (clM r 1)), (clA r 0), lC18, mC18, (clA r 1), lE18, mE18, ta) (⟨iR ((atV_w hc1 kc1 rfl).trans (sB_at hc1).symm), sgP_set⟩) rfl (Nat.le_refl _) (Nat.le_refl _)
    by_cases hs22_1 : what = nI 1
    · subst hs22_1
      refine g_tswj (tgt := 58) hX dX6_at_22 1 rfl (by decide) rfl (by decide) ?_
      refine g_aload_n hX dX6_at_58 rfl ?_
      refine g_getf hX dX6_at_59 fk_X6_21 0 rfl rfl ?_
      refine g_getf hX dX6_at_62 fk_X6_101 5 rfl rfl ?_
      refine g_getf hX dX6_at_65 fk_X6_149 6 rfl rfl ?_
      refine g_iload_n hX dX6_at_68 rfl ?_
      refine g_iald hX dX6_at_69 7 rfl (by decide) (by omega) ?_
      subst hQ
      exact g_zretU hX dX6_at_70 (vp_nar_int _) ((nI u), cr, cf, pr, jd, kp, ks, kl, (nI (clM r 0)), (nI (clM r 1)), (clA r 0), lC18, mC18, (clA r 1), lE18, mE18, ta) (⟨iR ((atV_l hc1 kc1 (by decide) rfl).trans ((cq_L r hc1).trans (clA_n hc1 kc1).symm)), sgP_set⟩) rfl (Nat.le_refl _) (Nat.le_refl _)
    by_cases hs22_2 : what = nI 2
    · subst hs22_2
      refine g_tswj (tgt := 71) hX dX6_at_22 2 rfl (by decide) rfl (by decide) ?_
      refine g_aload_n hX dX6_at_71 rfl ?_
      refine g_getf hX dX6_at_72 fk_X6_21 0 rfl rfl ?_
      refine g_getf hX dX6_at_75 fk_X6_110 5 rfl rfl ?_
      refine g_getf hX dX6_at_78 fk_X6_149 10 rfl rfl ?_
      refine g_iload_n hX dX6_at_81 rfl ?_
      refine g_iald hX dX6_at_82 11 rfl (by decide) (by omega) ?_
      subst hQ
      exact g_zretU hX dX6_at_83 (vp_nar_int _) ((nI u), cr, cf, pr, jd, kp, ks, kl, (nI (clM r 0)), (nI (clM r 1)), (clA r 0), lC18, mC18, (clA r 1), lE18, mE18, ta) (⟨iR ((atV_r hc1 kc1 (by decide) (by decide) rfl).trans ((cq_R r hc1).trans (clA_n hc1 kc1).symm)), sgP_set⟩) rfl (Nat.le_refl _) (Nat.le_refl _)
    have hsw22 : what.toInt < 0 ∨ 2 < what.toInt := sw_out (lo := 0) (n := 3) (by decide) (fun j hj => match j, hj with | 0, _ => hs22_0 | 1, _ => hs22_1 | 2, _ => hs22_2 | j + 3, hj => absurd hj (by omega))
    refine g_tswo (tgt := 84) hX dX6_at_22 hsw22 (by decide) ?_
    refine g_ldc hX dX6_at_84 kc_X6_65 ?_
    subst hQ
    exact g_zretU hX dX6_at_86 (vp_nar_int _) ((nI u), cr, cf, pr, jd, kp, ks, kl, (nI (clM r 0)), (nI (clM r 1)), (clA r 0), lC18, mC18, (clA r 1), lE18, mE18, ta) (⟨iR (atV_bad hc1 kc1 hs22_0 hs22_1 hs22_2), sgP_set⟩) rfl (Nat.le_refl _) (Nat.le_refl _)
  · skip
    refine g_ldc hX dX6_at_11 kc_X6_138 ?_
    subst hQ
    exact g_zretU hX dX6_at_13 (vp_nar_int _) (sv, cr, cf, pr, jd, kp, ks, kl, ctA, ctB, cA, lA, mA, cB, lB, mB, ta) (⟨iR (atV_no h8), hsg⟩) rfl (Nat.le_refl _) (Nat.le_refl _)
set_option maxRecDepth 100000 in
set_option maxHeartbeats 4000000 in
theorem ct_X6_pair {l : Launch} {D : va_G} {z0 s0 s1 s2 s3 s4 v0 v1 l0 l1 l2 l3 g0 g1 g2 g3 d0 y0 b0 i0 i1 i2 i3 u o : Nat} {r cA lA mA cB lB mB ta : Nat → Int32} {sv ctA ctB cr cf pr jd kp ks kl sd : Int32} {c d what : Int32} (hw : okW r) (hg : okG r) (ho : r 2 = nI o) (ho2 : o ≤ 20) (hD : okD r) (hcap : 0 ≤ r 3) (hlk : 0 ≤ r 1) (hsg : sgP r u sv cA ctA cB ctB) : Ct (S := Int32 × Int32 × Int32 × Int32 × Int32 × Int32 × Int32 × Int32 × Int32 × Int32 × (Nat → Int32) × (Nat → Int32) × (Nat → Int32) × (Nat → Int32) × (Nat → Int32) × (Nat → Int32) × (Nat → Int32)) l D yX6_pair cX6_pair 4 (some .int) 11 259 0 0 [.ref z0, .int c, .int d, .int what] [(z0, .inr (7, [.ref s0, .ref v0, .ref d0, .ref y0, .ref b0, .ref i0, .ref i1, .ref i2, .ref i3, .int sd])), (s0, .inr (6, [.int (r 0), .ref s1, .ref s2, .ref s3, .ref s4, .int (nI u)])), (s1, .inl (D.1 100, 16, .inl (sE r))), (s3, .inl (D.1 100, 5, .inl (sT r))), (s4, .inl (D.1 100, 64, .inl (sG r))), (v0, .inr (5, [.ref s0, .ref l0, .ref g0, .int sv, .int cr, .int cf, .int pr, .int jd, .int kp, .int ks, .int kl, .ref v1])), (l0, .inr (2, [.ref l1, .int ctA, .ref l2, .ref l3])), (l1, .inl (D.1 100, 8, .inl cA)), (l2, .inl (D.1 100, 8, .inl lA)), (l3, .inl (D.1 100, 8, .inl mA)), (g0, .inr (2, [.ref g1, .int ctB, .ref g2, .ref g3])), (g1, .inl (D.1 100, 8, .inl cB)), (g2, .inl (D.1 100, 8, .inl lB)), (g3, .inl (D.1 100, 8, .inl mB)), (v1, .inl (D.1 100, 41, .inl ta))] (fun (rv : Option Value) (ugh : Int32 × Int32 × Int32 × Int32 × Int32 × Int32 × Int32 × Int32 × Int32 × Int32 × (Nat → Int32) × (Nat → Int32) × (Nat → Int32) × (Nat → Int32) × (Nat → Int32) × (Nat → Int32) × (Nat → Int32)) => match ugh with | (sv2, cr2, cf2, pr2, jd2, kp2, ks2, kl2, ctA2, ctB2, cA2, lA2, mA2, cB2, lB2, mB2, ta2) => rv = (some (.int (pairV r c d what))) ∧ (sgP r u sv2 cA2 ctA2 cB2 ctB2)) (fun (ugh : Int32 × Int32 × Int32 × Int32 × Int32 × Int32 × Int32 × Int32 × Int32 × Int32 × (Nat → Int32) × (Nat → Int32) × (Nat → Int32) × (Nat → Int32) × (Nat → Int32) × (Nat → Int32) × (Nat → Int32)) => match ugh with | (sv2, cr2, cf2, pr2, jd2, kp2, ks2, kl2, ctA2, ctB2, cA2, lA2, mA2, cB2, lB2, mB2, ta2) => ([(z0, .inr (7, [.ref s0, .ref v0, .ref d0, .ref y0, .ref b0, .ref i0, .ref i1, .ref i2, .ref i3, .int sd])), (s0, .inr (6, [.int (r 0), .ref s1, .ref s2, .ref s3, .ref s4, .int (nI u)])), (s1, .inl (D.1 100, 16, .inl (sE r))), (s3, .inl (D.1 100, 5, .inl (sT r))), (s4, .inl (D.1 100, 64, .inl (sG r))), (v0, .inr (5, [.ref s0, .ref l0, .ref g0, .int sv2, .int cr2, .int cf2, .int pr2, .int jd2, .int kp2, .int ks2, .int kl2, .ref v1])), (l0, .inr (2, [.ref l1, .int ctA2, .ref l2, .ref l3])), (l1, .inl (D.1 100, 8, .inl cA2)), (l2, .inl (D.1 100, 8, .inl lA2)), (l3, .inl (D.1 100, 8, .inl mA2)), (g0, .inr (2, [.ref g1, .int ctB2, .ref g2, .ref g3])), (g1, .inl (D.1 100, 8, .inl cB2)), (g2, .inl (D.1 100, 8, .inl lB2)), (g3, .inl (D.1 100, 8, .inl mB2)), (v1, .inl (D.1 100, 41, .inl ta2))] : va_W)) := by
  refine Ct.ofG (by decide) (Nat.le_of_ble_eq_true rfl) ?_
  intro X hX
  have hX : CX X l D RX6 "pair" cX6_pair 4 (some .int) 11 259 0 0 := hX
  show G X (QM X 0 0 (fun (rv : Option Value) (ugh : Int32 × Int32 × Int32 × Int32 × Int32 × Int32 × Int32 × Int32 × Int32 × Int32 × (Nat → Int32) × (Nat → Int32) × (Nat → Int32) × (Nat → Int32) × (Nat → Int32) × (Nat → Int32) × (Nat → Int32)) => match ugh with | (sv2, cr2, cf2, pr2, jd2, kp2, ks2, kl2, ctA2, ctB2, cA2, lA2, mA2, cB2, lB2, mB2, ta2) => rv = (some (.int (pairV r c d what))) ∧ (sgP r u sv2 cA2 ctA2 cB2 ctB2)) (fun (ugh : Int32 × Int32 × Int32 × Int32 × Int32 × Int32 × Int32 × Int32 × Int32 × Int32 × (Nat → Int32) × (Nat → Int32) × (Nat → Int32) × (Nat → Int32) × (Nat → Int32) × (Nat → Int32) × (Nat → Int32)) => match ugh with | (sv2, cr2, cf2, pr2, jd2, kp2, ks2, kl2, ctA2, ctB2, cA2, lA2, mA2, cB2, lB2, mB2, ta2) => ([(z0, .inr (7, [.ref s0, .ref v0, .ref d0, .ref y0, .ref b0, .ref i0, .ref i1, .ref i2, .ref i3, .int sd])), (s0, .inr (6, [.int (r 0), .ref s1, .ref s2, .ref s3, .ref s4, .int (nI u)])), (s1, .inl (D.1 100, 16, .inl (sE r))), (s3, .inl (D.1 100, 5, .inl (sT r))), (s4, .inl (D.1 100, 64, .inl (sG r))), (v0, .inr (5, [.ref s0, .ref l0, .ref g0, .int sv2, .int cr2, .int cf2, .int pr2, .int jd2, .int kp2, .int ks2, .int kl2, .ref v1])), (l0, .inr (2, [.ref l1, .int ctA2, .ref l2, .ref l3])), (l1, .inl (D.1 100, 8, .inl cA2)), (l2, .inl (D.1 100, 8, .inl lA2)), (l3, .inl (D.1 100, 8, .inl mA2)), (g0, .inr (2, [.ref g1, .int ctB2, .ref g2, .ref g3])), (g1, .inl (D.1 100, 8, .inl cB2)), (g2, .inl (D.1 100, 8, .inl lB2)), (g3, .inl (D.1 100, 8, .inl mB2)), (v1, .inl (D.1 100, 41, .inl ta2))] : va_W))) [(z0, .inr (7, [.ref s0, .ref v0, .ref d0, .ref y0, .ref b0, .ref i0, .ref i1, .ref i2, .ref i3, .int sd])), (s0, .inr (6, [.int (r 0), .ref s1, .ref s2, .ref s3, .ref s4, .int (nI u)])), (s1, .inl (D.1 100, 16, .inl (sE r))), (s3, .inl (D.1 100, 5, .inl (sT r))), (s4, .inl (D.1 100, 64, .inl (sG r))), (v0, .inr (5, [.ref s0, .ref l0, .ref g0, .int sv, .int cr, .int cf, .int pr, .int jd, .int kp, .int ks, .int kl, .ref v1])), (l0, .inr (2, [.ref l1, .int ctA, .ref l2, .ref l3])), (l1, .inl (D.1 100, 8, .inl cA)), (l2, .inl (D.1 100, 8, .inl lA)), (l3, .inl (D.1 100, 8, .inl mA)), (g0, .inr (2, [.ref g1, .int ctB, .ref g2, .ref g3])), (g1, .inl (D.1 100, 8, .inl cB)), (g2, .inl (D.1 100, 8, .inl lB)), (g3, .inl (D.1 100, 8, .inl mB)), (v1, .inl (D.1 100, 41, .inl ta))] 0 0 0 [some (.ref z0), some (.int c), some (.int d), some (.int what)] []
  generalize hQ : QM X 0 0 (fun (rv : Option Value) (ugh : Int32 × Int32 × Int32 × Int32 × Int32 × Int32 × Int32 × Int32 × Int32 × Int32 × (Nat → Int32) × (Nat → Int32) × (Nat → Int32) × (Nat → Int32) × (Nat → Int32) × (Nat → Int32) × (Nat → Int32)) => match ugh with | (sv2, cr2, cf2, pr2, jd2, kp2, ks2, kl2, ctA2, ctB2, cA2, lA2, mA2, cB2, lB2, mB2, ta2) => rv = (some (.int (pairV r c d what))) ∧ (sgP r u sv2 cA2 ctA2 cB2 ctB2)) (fun (ugh : Int32 × Int32 × Int32 × Int32 × Int32 × Int32 × Int32 × Int32 × Int32 × Int32 × (Nat → Int32) × (Nat → Int32) × (Nat → Int32) × (Nat → Int32) × (Nat → Int32) × (Nat → Int32) × (Nat → Int32)) => match ugh with | (sv2, cr2, cf2, pr2, jd2, kp2, ks2, kl2, ctA2, ctB2, cA2, lA2, mA2, cB2, lB2, mB2, ta2) => ([(z0, .inr (7, [.ref s0, .ref v0, .ref d0, .ref y0, .ref b0, .ref i0, .ref i1, .ref i2, .ref i3, .int sd])), (s0, .inr (6, [.int (r 0), .ref s1, .ref s2, .ref s3, .ref s4, .int (nI u)])), (s1, .inl (D.1 100, 16, .inl (sE r))), (s3, .inl (D.1 100, 5, .inl (sT r))), (s4, .inl (D.1 100, 64, .inl (sG r))), (v0, .inr (5, [.ref s0, .ref l0, .ref g0, .int sv2, .int cr2, .int cf2, .int pr2, .int jd2, .int kp2, .int ks2, .int kl2, .ref v1])), (l0, .inr (2, [.ref l1, .int ctA2, .ref l2, .ref l3])), (l1, .inl (D.1 100, 8, .inl cA2)), (l2, .inl (D.1 100, 8, .inl lA2)), (l3, .inl (D.1 100, 8, .inl mA2)), (g0, .inr (2, [.ref g1, .int ctB2, .ref g2, .ref g3])), (g1, .inl (D.1 100, 8, .inl cB2)), (g2, .inl (D.1 100, 8, .inl lB2)), (g3, .inl (D.1 100, 8, .inl mB2)), (v1, .inl (D.1 100, 41, .inl ta2))] : va_W)) = Q
  refine g_aload_n hX dX6_pair_0 rfl ?_
  refine g_getf hX dX6_pair_1 fk_X6_10 0 rfl rfl ?_
  refine g_iload_n hX dX6_pair_4 rfl ?_
  refine g_iload_n hX dX6_pair_5 rfl ?_
  refine g_callRi hX dX6_pair_6 cw_X6_152 ct_X5_knowsBoth 1 6 [1] rfl rfl rfl rfl (by decide) rfl ⟨by decide, by decide⟩ (Nat.le_of_ble_eq_true rfl) (Nat.le_refl _) (Nat.le_refl _) ?_
  refine g_ifb_ne (tgt := 15) hX dX6_pair_9 (by decide) (fun h9 => ?_) (fun h9 => ?_)
  · skip
    obtain ⟨kk1, kk2⟩ := (Bool.and_eq_true _ _).mp h9
    obtain ⟨c1, hc1, ec1, kc1⟩ := isKn_in kk1
    subst ec1
    obtain ⟨d1, hd1, ed1, kd1⟩ := isKn_in kk2
    subst ed1
    refine g_aload_n hX dX6_pair_15 rfl ?_
    refine g_getf hX dX6_pair_16 fk_X6_21 0 rfl rfl ?_
    refine g_call hX dX6_pair_19 cw_X6_95 (ct_X4_settle  (by first | with_reducible assumption | assumption) hlk hsg.2) 5 5 [5, 1, 2, 3, 6, 7, 8, 9, 10, 11, 12, 13] rfl rfl rfl rfl (by decide) rfl (fun ⟨_, _, _, _⟩ => rfl) ⟨by decide, by decide⟩ (Nat.le_of_ble_eq_true rfl) ⟨Nat.le_refl _, Nat.le_refl _⟩ (fun vgh ugh hp => ?_)
    obtain ⟨lC19, mC19, lE19, mE19⟩ := ugh
    obtain ⟨rfl⟩ := hp
    show G X Q [(z0, .inr (7, [.ref s0, .ref v0, .ref d0, .ref y0, .ref b0, .ref i0, .ref i1, .ref i2, .ref i3, .int sd])), (s0, .inr (6, [.int (r 0), .ref s1, .ref s2, .ref s3, .ref s4, .int (nI u)])), (s1, .inl (D.1 100, 16, .inl (sE r))), (s3, .inl (D.1 100, 5, .inl (sT r))), (s4, .inl (D.1 100, 64, .inl (sG r))), (v0, .inr (5, [.ref s0, .ref l0, .ref g0, .int (nI u), .int cr, .int cf, .int pr, .int jd, .int kp, .int ks, .int kl, .ref v1])), (l0, .inr (2, [.ref l1, .int (nI (clM r 0)), .ref l2, .ref l3])), (l1, .inl (D.1 100, 8, .inl (clA r 0))), (l2, .inl (D.1 100, 8, .inl lC19)), (l3, .inl (D.1 100, 8, .inl mC19)), (g0, .inr (2, [.ref g1, .int (nI (clM r 1)), .ref g2, .ref g3])), (g1, .inl (D.1 100, 8, .inl (clA r 1))), (g2, .inl (D.1 100, 8, .inl lE19)), (g3, .inl (D.1 100, 8, .inl mE19)), (v1, .inl (D.1 100, 41, .inl ta))] 0 0 22 [some (.ref z0), some (.int (nI c1)), some (.int (nI d1)), some (.int what)] []
    refine g_iload_n hX dX6_pair_22 rfl ?_
    by_cases hs23_0 : what = nI 0
    · subst hs23_0
      refine g_tswj (tgt := 56) hX dX6_pair_23 0 rfl (by decide) rfl (by decide) ?_
      refine g_aload_n hX dX6_pair_56 rfl ?_
      refine g_getf hX dX6_pair_57 fk_X6_21 0 rfl rfl ?_
      refine g_iload_n hX dX6_pair_60 rfl ?_
      refine g_iload_n hX dX6_pair_61 rfl ?_
      refine g_call hX dX6_pair_62 cw_X6_159 (ct_X4_gapOfPair  (by first | with_reducible assumption | assumption) (by first | with_reducible assumption | assumption) (by first | with_reducible assumption | assumption) (by omega) (by first | with_reducible assumption | assumption) (by omega) (by omega) (by omega) (by first | with_reducible assumption | assumption) (by first | with_reducible assumption | assumption)) 5 5 [5, 1, 2, 3, 4, 6, 7, 10, 11, 14] rfl rfl rfl rfl (by decide) rfl (fun ⟨_, _, _, _, _, _, _, _⟩ => rfl) ⟨by decide, by decide⟩ (Nat.le_of_ble_eq_true rfl) ⟨Nat.le_refl _, Nat.le_refl _⟩ (fun vgh ugh hp => ?_)
      obtain ⟨cr262, cf262, pr262, jd262, kp262, ks262, kl262, ta262⟩ := ugh
      obtain ⟨rfl⟩ := hp
      show G X Q [(z0, .inr (7, [.ref s0, .ref v0, .ref d0, .ref y0, .ref b0, .ref i0, .ref i1, .ref i2, .ref i3, .int sd])), (s0, .inr (6, [.int (r 0), .ref s1, .ref s2, .ref s3, .ref s4, .int (nI u)])), (s1, .inl (D.1 100, 16, .inl (sE r))), (s3, .inl (D.1 100, 5, .inl (sT r))), (s4, .inl (D.1 100, 64, .inl (sG r))), (v0, .inr (5, [.ref s0, .ref l0, .ref g0, .int (nI u), .int cr262, .int cf262, .int pr262, .int jd262, .int kp262, .int ks262, .int kl262, .ref v1])), (l0, .inr (2, [.ref l1, .int (nI (clM r 0)), .ref l2, .ref l3])), (l1, .inl (D.1 100, 8, .inl (clA r 0))), (l2, .inl (D.1 100, 8, .inl lC19)), (l3, .inl (D.1 100, 8, .inl mC19)), (g0, .inr (2, [.ref g1, .int (nI (clM r 1)), .ref g2, .ref g3])), (g1, .inl (D.1 100, 8, .inl (clA r 1))), (g2, .inl (D.1 100, 8, .inl lE19)), (g3, .inl (D.1 100, 8, .inl mE19)), (v1, .inl (D.1 100, 41, .inl ta262))] 0 0 65 [some (.ref z0), some (.int (nI c1)), some (.int (nI d1)), some (.int (nI 0))] [.int (gapOf r (cq r) c1 d1 - nI 100)]
      refine g_bipush hX dX6_pair_65 kn_b_100 ?_
      refine g_iadd hX dX6_pair_67 ?_
      subst hQ
      exact g_zretU hX dX6_pair_68 (vp_nar_int _) ((nI u), cr262, cf262, pr262, jd262, kp262, ks262, kl262, (nI (clM r 0)), (nI (clM r 1)), (clA r 0), lC19, mC19, (clA r 1), lE19, mE19, ta262) (⟨iR ((pairV_0 hc1 hd1 kc1 kd1).trans sub_add100.symm), sgP_set⟩) rfl (Nat.le_refl _) (Nat.le_refl _)
    by_cases hs23_1 : what = nI 1
    · subst hs23_1
      refine g_tswj (tgt := 69) hX dX6_pair_23 1 rfl (by decide) rfl (by decide) ?_
      refine g_aload_n hX dX6_pair_69 rfl ?_
      refine g_getf hX dX6_pair_70 fk_X6_10 0 rfl rfl ?_
      refine g_iload_n hX dX6_pair_73 rfl ?_
      refine g_iload_n hX dX6_pair_74 rfl ?_
      refine g_callRi hX dX6_pair_75 cw_X6_163 (ct_X5_isJudged  (by first | with_reducible assumption | assumption) (by omega) (by omega)) 1 6 [1, 4] rfl rfl rfl rfl (by decide) rfl ⟨by decide, by decide⟩ (Nat.le_of_ble_eq_true rfl) (Nat.le_refl _) (Nat.le_refl _) ?_
      refine g_ifb_eq (tgt := 96) hX dX6_pair_78 (by decide) (fun h78 => ?_) (fun h78 => ?_)
      · skip
        refine g_iconst hX dX6_pair_96 kn_i_m1 ?_
        subst hQ
        exact g_zretU hX dX6_pair_97 (vp_nar_int _) ((nI u), cr, cf, pr, jd, kp, ks, kl, (nI (clM r 0)), (nI (clM r 1)), (clA r 0), lC19, mC19, (clA r 1), lE19, mE19, ta) (⟨iR ((pairV_1 hc1 hd1 kc1 kd1).trans (if_pos (jd_le h78))), sgP_set⟩) rfl (Nat.le_refl _) (Nat.le_refl _)
      · skip
        refine g_aload_n hX dX6_pair_81 rfl ?_
        refine g_getf hX dX6_pair_82 fk_X6_10 0 rfl rfl ?_
        refine g_iload_n hX dX6_pair_85 rfl ?_
        refine g_iload_n hX dX6_pair_86 rfl ?_
        refine g_callRi hX dX6_pair_87 cw_X6_166 (ct_X5_judgedGap  (by omega) (by omega)) 1 6 [1, 4] rfl rfl rfl rfl (by decide) rfl ⟨by decide, by decide⟩ (Nat.le_of_ble_eq_true rfl) (Nat.le_refl _) (Nat.le_refl _) ?_
        refine g_bipush hX dX6_pair_90 kn_b_100 ?_
        refine g_iadd hX dX6_pair_92 ?_
        refine g_goto (tgt := 97) hX dX6_pair_93 (by decide) ?_
        subst hQ
        exact g_zretU hX dX6_pair_97 (vp_nar_int _) ((nI u), cr, cf, pr, jd, kp, ks, kl, (nI (clM r 0)), (nI (clM r 1)), (clA r 0), lC19, mC19, (clA r 1), lE19, mE19, ta) (⟨iR ((pairV_1 hc1 hd1 kc1 kd1).trans ((if_neg (jd_nle h78)).trans (gG_100 h78).symm)), sgP_set⟩) rfl (Nat.le_refl _) (Nat.le_refl _)
    by_cases hs23_2 : what = nI 2
    · subst hs23_2
      refine g_tswj (tgt := 98) hX dX6_pair_23 2 rfl (by decide) rfl (by decide) ?_
      refine g_aload_n hX dX6_pair_98 rfl ?_
      refine g_getf hX dX6_pair_99 fk_X6_21 0 rfl rfl ?_
      refine g_iload_n hX dX6_pair_102 rfl ?_
      refine g_iload_n hX dX6_pair_103 rfl ?_
      refine g_call hX dX6_pair_104 cw_X6_169 (ct_X4_isStrange  (by first | with_reducible assumption | assumption) (by first | with_reducible assumption | assumption) (by first | with_reducible assumption | assumption) (by omega) (by omega) (by omega)) 5 5 [5, 1, 2, 3, 4, 6, 7, 10, 11, 14] rfl rfl rfl rfl (by decide) rfl (fun ⟨_, _, _, _, _, _, _, _⟩ => rfl) ⟨by decide, by decide⟩ (Nat.le_of_ble_eq_true rfl) ⟨Nat.le_refl _, Nat.le_refl _⟩ (fun vgh ugh hp => ?_)
      obtain ⟨cr2104, cf2104, pr2104, jd2104, kp2104, ks2104, kl2104, ta2104⟩ := ugh
      obtain ⟨rfl⟩ := hp
      show G X Q [(z0, .inr (7, [.ref s0, .ref v0, .ref d0, .ref y0, .ref b0, .ref i0, .ref i1, .ref i2, .ref i3, .int sd])), (s0, .inr (6, [.int (r 0), .ref s1, .ref s2, .ref s3, .ref s4, .int (nI u)])), (s1, .inl (D.1 100, 16, .inl (sE r))), (s3, .inl (D.1 100, 5, .inl (sT r))), (s4, .inl (D.1 100, 64, .inl (sG r))), (v0, .inr (5, [.ref s0, .ref l0, .ref g0, .int (nI u), .int cr2104, .int cf2104, .int pr2104, .int jd2104, .int kp2104, .int ks2104, .int kl2104, .ref v1])), (l0, .inr (2, [.ref l1, .int (nI (clM r 0)), .ref l2, .ref l3])), (l1, .inl (D.1 100, 8, .inl (clA r 0))), (l2, .inl (D.1 100, 8, .inl lC19)), (l3, .inl (D.1 100, 8, .inl mC19)), (g0, .inr (2, [.ref g1, .int (nI (clM r 1)), .ref g2, .ref g3])), (g1, .inl (D.1 100, 8, .inl (clA r 1))), (g2, .inl (D.1 100, 8, .inl lE19)), (g3, .inl (D.1 100, 8, .inl mE19)), (v1, .inl (D.1 100, 41, .inl ta2104))] 0 0 107 [some (.ref z0), some (.int (nI c1)), some (.int (nI d1)), some (.int (nI 2))] [.int (bI (strB r (cq r) c1 d1))]
      refine g_ifb_eq (tgt := 114) hX dX6_pair_107 (by decide) (fun h107 => ?_) (fun h107 => ?_)
      · skip
        refine g_iconst hX dX6_pair_114 kn_i_0 ?_
        subst hQ
        exact g_zretU hX dX6_pair_115 (vp_nar_int _) ((nI u), cr2104, cf2104, pr2104, jd2104, kp2104, ks2104, kl2104, (nI (clM r 0)), (nI (clM r 1)), (clA r 0), lC19, mC19, (clA r 1), lE19, mE19, ta2104) (⟨iR ((pairV_2 hc1 hd1 kc1 kd1).trans (by rw [h107]; rfl)), sgP_set⟩) rfl (Nat.le_refl _) (Nat.le_refl _)
      · skip
        refine g_iconst hX dX6_pair_110 kn_i_1 ?_
        refine g_goto (tgt := 115) hX dX6_pair_111 (by decide) ?_
        subst hQ
        exact g_zretU hX dX6_pair_115 (vp_nar_int _) ((nI u), cr2104, cf2104, pr2104, jd2104, kp2104, ks2104, kl2104, (nI (clM r 0)), (nI (clM r 1)), (clA r 0), lC19, mC19, (clA r 1), lE19, mE19, ta2104) (⟨iR ((pairV_2 hc1 hd1 kc1 kd1).trans (by rw [h107]; rfl)), sgP_set⟩) rfl (Nat.le_refl _) (Nat.le_refl _)
    by_cases hs23_3 : what = nI 3
    · subst hs23_3
      refine g_tswj (tgt := 116) hX dX6_pair_23 3 rfl (by decide) rfl (by decide) ?_
      refine g_aload_n hX dX6_pair_116 rfl ?_
      refine g_getf hX dX6_pair_117 fk_X6_10 0 rfl rfl ?_
      refine g_iload_n hX dX6_pair_120 rfl ?_
      refine g_iload_n hX dX6_pair_121 rfl ?_
      refine g_callRi hX dX6_pair_122 cw_X6_172 (ct_X5_sightGap  (by first | with_reducible assumption | assumption) (by omega) (by omega) (by omega)) 1 6 [1, 2, 3] rfl rfl rfl rfl (by decide) rfl ⟨by decide, by decide⟩ (Nat.le_of_ble_eq_true rfl) (Nat.le_refl _) (Nat.le_refl _) ?_
      refine g_bipush hX dX6_pair_125 kn_b_100 ?_
      refine g_iadd hX dX6_pair_127 ?_
      subst hQ
      exact g_zretU hX dX6_pair_128 (vp_nar_int _) ((nI u), cr, cf, pr, jd, kp, ks, kl, (nI (clM r 0)), (nI (clM r 1)), (clA r 0), lC19, mC19, (clA r 1), lE19, mE19, ta) (⟨iR (pairV_3 hc1 hd1 kc1 kd1), sgP_set⟩) rfl (Nat.le_refl _) (Nat.le_refl _)
    by_cases hs23_4 : what = nI 4
    · subst hs23_4
      refine g_tswj (tgt := 129) hX dX6_pair_23 4 rfl (by decide) rfl (by decide) ?_
      refine g_aload_n hX dX6_pair_129 rfl ?_
      refine g_getf hX dX6_pair_130 fk_X6_10 0 rfl rfl ?_
      refine g_iload_n hX dX6_pair_133 rfl ?_
      refine g_iload_n hX dX6_pair_134 rfl ?_
      refine g_aload_n hX dX6_pair_135 rfl ?_
      refine g_getf hX dX6_pair_136 fk_X6_21 0 rfl rfl ?_
      refine g_iload_n hX dX6_pair_139 rfl ?_
      refine g_iload_n hX dX6_pair_140 rfl ?_
      refine g_call hX dX6_pair_141 cw_X6_159 (ct_X4_gapOfPair  (by first | with_reducible assumption | assumption) (by first | with_reducible assumption | assumption) (by first | with_reducible assumption | assumption) (by omega) (by first | with_reducible assumption | assumption) (by omega) (by omega) (by omega) (by first | with_reducible assumption | assumption) (by first | with_reducible assumption | assumption)) 5 5 [5, 1, 2, 3, 4, 6, 7, 10, 11, 14] rfl rfl rfl rfl (by decide) rfl (fun ⟨_, _, _, _, _, _, _, _⟩ => rfl) ⟨by decide, by decide⟩ (Nat.le_of_ble_eq_true rfl) ⟨Nat.le_refl _, Nat.le_refl _⟩ (fun vgh ugh hp => ?_)
      obtain ⟨cr2141, cf2141, pr2141, jd2141, kp2141, ks2141, kl2141, ta2141⟩ := ugh
      obtain ⟨rfl⟩ := hp
      show G X Q [(z0, .inr (7, [.ref s0, .ref v0, .ref d0, .ref y0, .ref b0, .ref i0, .ref i1, .ref i2, .ref i3, .int sd])), (s0, .inr (6, [.int (r 0), .ref s1, .ref s2, .ref s3, .ref s4, .int (nI u)])), (s1, .inl (D.1 100, 16, .inl (sE r))), (s3, .inl (D.1 100, 5, .inl (sT r))), (s4, .inl (D.1 100, 64, .inl (sG r))), (v0, .inr (5, [.ref s0, .ref l0, .ref g0, .int (nI u), .int cr2141, .int cf2141, .int pr2141, .int jd2141, .int kp2141, .int ks2141, .int kl2141, .ref v1])), (l0, .inr (2, [.ref l1, .int (nI (clM r 0)), .ref l2, .ref l3])), (l1, .inl (D.1 100, 8, .inl (clA r 0))), (l2, .inl (D.1 100, 8, .inl lC19)), (l3, .inl (D.1 100, 8, .inl mC19)), (g0, .inr (2, [.ref g1, .int (nI (clM r 1)), .ref g2, .ref g3])), (g1, .inl (D.1 100, 8, .inl (clA r 1))), (g2, .inl (D.1 100, 8, .inl lE19)), (g3, .inl (D.1 100, 8, .inl mE19)), (v1, .inl (D.1 100, 41, .inl ta2141))] 0 0 144 [some (.ref z0), some (.int (nI c1)), some (.int (nI d1)), some (.int (nI 4))] [.int (gapOf r (cq r) c1 d1 - nI 100), .int (nI d1), .int (nI c1), .ref s0]
      refine g_callRi hX dX6_pair_144 cw_X6_175 (ct_X5_white  (by first | with_reducible assumption | assumption) (by omega) (by omega) (by omega)) 1 6 [1, 2, 3] rfl rfl rfl rfl (by decide) rfl ⟨by decide, by decide⟩ (Nat.le_of_ble_eq_true rfl) (Nat.le_refl _) (Nat.le_refl _) ?_
      subst hQ
      exact g_zretU hX dX6_pair_147 (vp_nar_int _) ((nI u), cr2141, cf2141, pr2141, jd2141, kp2141, ks2141, kl2141, (nI (clM r 0)), (nI (clM r 1)), (clA r 0), lC19, mC19, (clA r 1), lE19, mE19, ta2141) (⟨iR (pairV_4 hc1 hd1 kc1 kd1), sgP_set⟩) rfl (Nat.le_refl _) (Nat.le_refl _)
    have hsw23 : what.toInt < 0 ∨ 4 < what.toInt := sw_out (lo := 0) (n := 5) (by decide) (fun j hj => match j, hj with | 0, _ => hs23_0 | 1, _ => hs23_1 | 2, _ => hs23_2 | 3, _ => hs23_3 | 4, _ => hs23_4 | j + 5, hj => absurd hj (by omega))
    refine g_tswo (tgt := 148) hX dX6_pair_23 hsw23 (by decide) ?_
    refine g_ldc hX dX6_pair_148 kc_X6_65 ?_
    subst hQ
    exact g_zretU hX dX6_pair_150 (vp_nar_int _) ((nI u), cr, cf, pr, jd, kp, ks, kl, (nI (clM r 0)), (nI (clM r 1)), (clA r 0), lC19, mC19, (clA r 1), lE19, mE19, ta) (⟨iR (pairV_o hc1 hd1 kc1 kd1 hs23_0 hs23_1 hs23_2 hs23_3 hs23_4), sgP_set⟩) rfl (Nat.le_refl _) (Nat.le_refl _)
  · skip
    refine g_ldc hX dX6_pair_12 kc_X6_138 ?_
    subst hQ
    exact g_zretU hX dX6_pair_14 (vp_nar_int _) (sv, cr, cf, pr, jd, kp, ks, kl, ctA, ctB, cA, lA, mA, cB, lB, mB, ta) (⟨iR (pairV_no h9), hsg⟩) rfl (Nat.le_refl _) (Nat.le_refl _)
