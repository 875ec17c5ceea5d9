set_option maxRecDepth 100000 in
set_option maxHeartbeats 4000000 in
theorem ct_X6_word {l : Launch} {D : va_G} {z0 s0 s1 s2 s3 s4 v0 v1 l0 l1 l2 l3 g0 g1 g2 g3 d0 y0 b0 i0 i1 i2 i3 u o : Nat} {r cA lA mA cB lB mB ta : Nat → Int32} {sv ctA ctB cr cf pr jd kp ks kl sd : Int32} {wl : Nat → Int32} {n a b c d e : Int32} (hw : okW r) (hg : okG r) (ho : r 2 = nI o) (ho2 : o ≤ 20) (hD : okD r) (hcap : 0 ≤ r 3) (hlk : 0 ≤ r 1) (hsg : sgP r u sv cA ctA cB ctB) : Ct (S := Int32 × Int32 × Int32 × Int32 × Int32 × Int32 × Int32 × Int32 × Int32 × Int32 × (Nat → Int32) × (Nat → Int32) × (Nat → Int32) × (Nat → Int32) × (Nat → Int32) × (Nat → Int32) × (Nat → Int32) × (Nat → Int32)) l D yX6_word cX6_word 9 (some .int) 11 259 0 0 [.ref z0, .int n, .int a, .int b, .int c, .int d, .int e] [(z0, .inr (7, [.ref s0, .ref v0, .ref d0, .ref y0, .ref b0, .ref i0, .ref i1, .ref i2, .ref i3, .int sd])), (i3, .inl (D.1 100, 5, .inl wl)), (s0, .inr (6, [.int (r 0), .ref s1, .ref s2, .ref s3, .ref s4, .int (nI u)])), (s1, .inl (D.1 100, 16, .inl (sE r))), (s2, .inl (D.1 100, 8, .inl (sB r))), (s3, .inl (D.1 100, 5, .inl (sT r))), (s4, .inl (D.1 100, 64, .inl (sG r))), (v0, .inr (5, [.ref s0, .ref l0, .ref g0, .int sv, .int cr, .int cf, .int pr, .int jd, .int kp, .int ks, .int kl, .ref v1])), (l0, .inr (2, [.ref l1, .int ctA, .ref l2, .ref l3])), (l1, .inl (D.1 100, 8, .inl cA)), (l2, .inl (D.1 100, 8, .inl lA)), (l3, .inl (D.1 100, 8, .inl mA)), (g0, .inr (2, [.ref g1, .int ctB, .ref g2, .ref g3])), (g1, .inl (D.1 100, 8, .inl cB)), (g2, .inl (D.1 100, 8, .inl lB)), (g3, .inl (D.1 100, 8, .inl mB)), (v1, .inl (D.1 100, 41, .inl ta))] (fun (rv : Option Value) (ugh : Int32 × Int32 × Int32 × Int32 × Int32 × Int32 × Int32 × Int32 × Int32 × Int32 × (Nat → Int32) × (Nat → Int32) × (Nat → Int32) × (Nat → Int32) × (Nat → Int32) × (Nat → Int32) × (Nat → Int32) × (Nat → Int32)) => match ugh with | (sv2, cr2, cf2, pr2, jd2, kp2, ks2, kl2, ctA2, ctB2, cA2, lA2, mA2, cB2, lB2, mB2, ta2, Wl) => rv = (some (.int (wordV r n a b c d e))) ∧ (sgP r u sv2 cA2 ctA2 cB2 ctB2)) (fun (ugh : Int32 × Int32 × Int32 × Int32 × Int32 × Int32 × Int32 × Int32 × Int32 × Int32 × (Nat → Int32) × (Nat → Int32) × (Nat → Int32) × (Nat → Int32) × (Nat → Int32) × (Nat → Int32) × (Nat → Int32) × (Nat → Int32)) => match ugh with | (sv2, cr2, cf2, pr2, jd2, kp2, ks2, kl2, ctA2, ctB2, cA2, lA2, mA2, cB2, lB2, mB2, ta2, Wl) => ([(z0, .inr (7, [.ref s0, .ref v0, .ref d0, .ref y0, .ref b0, .ref i0, .ref i1, .ref i2, .ref i3, .int sd])), (i3, .inl (D.1 100, 5, .inl Wl)), (s0, .inr (6, [.int (r 0), .ref s1, .ref s2, .ref s3, .ref s4, .int (nI u)])), (s1, .inl (D.1 100, 16, .inl (sE r))), (s2, .inl (D.1 100, 8, .inl (sB r))), (s3, .inl (D.1 100, 5, .inl (sT r))), (s4, .inl (D.1 100, 64, .inl (sG r))), (v0, .inr (5, [.ref s0, .ref l0, .ref g0, .int sv2, .int cr2, .int cf2, .int pr2, .int jd2, .int kp2, .int ks2, .int kl2, .ref v1])), (l0, .inr (2, [.ref l1, .int ctA2, .ref l2, .ref l3])), (l1, .inl (D.1 100, 8, .inl cA2)), (l2, .inl (D.1 100, 8, .inl lA2)), (l3, .inl (D.1 100, 8, .inl mA2)), (g0, .inr (2, [.ref g1, .int ctB2, .ref g2, .ref g3])), (g1, .inl (D.1 100, 8, .inl cB2)), (g2, .inl (D.1 100, 8, .inl lB2)), (g3, .inl (D.1 100, 8, .inl mB2)), (v1, .inl (D.1 100, 41, .inl ta2))] : va_W)) := by
  refine Ct.ofG (by decide) (Nat.le_of_ble_eq_true rfl) ?_
  intro X hX
  have hX : CX X l D RX6 "word" cX6_word 9 (some .int) 11 259 0 0 := hX
  show G X (QM X 0 0 (fun (rv : Option Value) (ugh : Int32 × Int32 × Int32 × Int32 × Int32 × Int32 × Int32 × Int32 × Int32 × Int32 × (Nat → Int32) × (Nat → Int32) × (Nat → Int32) × (Nat → Int32) × (Nat → Int32) × (Nat → Int32) × (Nat → Int32) × (Nat → Int32)) => match ugh with | (sv2, cr2, cf2, pr2, jd2, kp2, ks2, kl2, ctA2, ctB2, cA2, lA2, mA2, cB2, lB2, mB2, ta2, Wl) => rv = (some (.int (wordV r n a b c d e))) ∧ (sgP r u sv2 cA2 ctA2 cB2 ctB2)) (fun (ugh : Int32 × Int32 × Int32 × Int32 × Int32 × Int32 × Int32 × Int32 × Int32 × Int32 × (Nat → Int32) × (Nat → Int32) × (Nat → Int32) × (Nat → Int32) × (Nat → Int32) × (Nat → Int32) × (Nat → Int32) × (Nat → Int32)) => match ugh with | (sv2, cr2, cf2, pr2, jd2, kp2, ks2, kl2, ctA2, ctB2, cA2, lA2, mA2, cB2, lB2, mB2, ta2, Wl) => ([(z0, .inr (7, [.ref s0, .ref v0, .ref d0, .ref y0, .ref b0, .ref i0, .ref i1, .ref i2, .ref i3, .int sd])), (i3, .inl (D.1 100, 5, .inl Wl)), (s0, .inr (6, [.int (r 0), .ref s1, .ref s2, .ref s3, .ref s4, .int (nI u)])), (s1, .inl (D.1 100, 16, .inl (sE r))), (s2, .inl (D.1 100, 8, .inl (sB r))), (s3, .inl (D.1 100, 5, .inl (sT r))), (s4, .inl (D.1 100, 64, .inl (sG r))), (v0, .inr (5, [.ref s0, .ref l0, .ref g0, .int sv2, .int cr2, .int cf2, .int pr2, .int jd2, .int kp2, .int ks2, .int kl2, .ref v1])), (l0, .inr (2, [.ref l1, .int ctA2, .ref l2, .ref l3])), (l1, .inl (D.1 100, 8, .inl cA2)), (l2, .inl (D.1 100, 8, .inl lA2)), (l3, .inl (D.1 100, 8, .inl mA2)), (g0, .inr (2, [.ref g1, .int ctB2, .ref g2, .ref g3])), (g1, .inl (D.1 100, 8, .inl cB2)), (g2, .inl (D.1 100, 8, .inl lB2)), (g3, .inl (D.1 100, 8, .inl mB2)), (v1, .inl (D.1 100, 41, .inl ta2))] : va_W))) [(z0, .inr (7, [.ref s0, .ref v0, .ref d0, .ref y0, .ref b0, .ref i0, .ref i1, .ref i2, .ref i3, .int sd])), (i3, .inl (D.1 100, 5, .inl wl)), (s0, .inr (6, [.int (r 0), .ref s1, .ref s2, .ref s3, .ref s4, .int (nI u)])), (s1, .inl (D.1 100, 16, .inl (sE r))), (s2, .inl (D.1 100, 8, .inl (sB r))), (s3, .inl (D.1 100, 5, .inl (sT r))), (s4, .inl (D.1 100, 64, .inl (sG r))), (v0, .inr (5, [.ref s0, .ref l0, .ref g0, .int sv, .int cr, .int cf, .int pr, .int jd, .int kp, .int ks, .int kl, .ref v1])), (l0, .inr (2, [.ref l1, .int ctA, .ref l2, .ref l3])), (l1, .inl (D.1 100, 8, .inl cA)), (l2, .inl (D.1 100, 8, .inl lA)), (l3, .inl (D.1 100, 8, .inl mA)), (g0, .inr (2, [.ref g1, .int ctB, .ref g2, .ref g3])), (g1, .inl (D.1 100, 8, .inl cB)), (g2, .inl (D.1 100, 8, .inl lB)), (g3, .inl (D.1 100, 8, .inl mB)), (v1, .inl (D.1 100, 41, .inl ta))] 0 0 0 [some (.ref z0), some (.int n), some (.int a), some (.int b), some (.int c), some (.int d), some (.int e), none, none] []
  generalize hQ : QM X 0 0 (fun (rv : Option Value) (ugh : Int32 × Int32 × Int32 × Int32 × Int32 × Int32 × Int32 × Int32 × Int32 × Int32 × (Nat → Int32) × (Nat → Int32) × (Nat → Int32) × (Nat → Int32) × (Nat → Int32) × (Nat → Int32) × (Nat → Int32) × (Nat → Int32)) => match ugh with | (sv2, cr2, cf2, pr2, jd2, kp2, ks2, kl2, ctA2, ctB2, cA2, lA2, mA2, cB2, lB2, mB2, ta2, Wl) => rv = (some (.int (wordV r n a b c d e))) ∧ (sgP r u sv2 cA2 ctA2 cB2 ctB2)) (fun (ugh : Int32 × Int32 × Int32 × Int32 × Int32 × Int32 × Int32 × Int32 × Int32 × Int32 × (Nat → Int32) × (Nat → Int32) × (Nat → Int32) × (Nat → Int32) × (Nat → Int32) × (Nat → Int32) × (Nat → Int32) × (Nat → Int32)) => match ugh with | (sv2, cr2, cf2, pr2, jd2, kp2, ks2, kl2, ctA2, ctB2, cA2, lA2, mA2, cB2, lB2, mB2, ta2, Wl) => ([(z0, .inr (7, [.ref s0, .ref v0, .ref d0, .ref y0, .ref b0, .ref i0, .ref i1, .ref i2, .ref i3, .int sd])), (i3, .inl (D.1 100, 5, .inl Wl)), (s0, .inr (6, [.int (r 0), .ref s1, .ref s2, .ref s3, .ref s4, .int (nI u)])), (s1, .inl (D.1 100, 16, .inl (sE r))), (s2, .inl (D.1 100, 8, .inl (sB r))), (s3, .inl (D.1 100, 5, .inl (sT r))), (s4, .inl (D.1 100, 64, .inl (sG r))), (v0, .inr (5, [.ref s0, .ref l0, .ref g0, .int sv2, .int cr2, .int cf2, .int pr2, .int jd2, .int kp2, .int ks2, .int kl2, .ref v1])), (l0, .inr (2, [.ref l1, .int ctA2, .ref l2, .ref l3])), (l1, .inl (D.1 100, 8, .inl cA2)), (l2, .inl (D.1 100, 8, .inl lA2)), (l3, .inl (D.1 100, 8, .inl mA2)), (g0, .inr (2, [.ref g1, .int ctB2, .ref g2, .ref g3])), (g1, .inl (D.1 100, 8, .inl cB2)), (g2, .inl (D.1 100, 8, .inl lB2)), (g3, .inl (D.1 100, 8, .inl mB2)), (v1, .inl (D.1 100, 41, .inl ta2))] : va_W)) = Q
  refine g_iload_n hX dX6_word_0 rfl ?_
  refine g_iconst hX dX6_word_1 kn_i_1 ?_
  refine g_icmp_lt (tgt := 10) hX dX6_word_2 (by decide) (fun h2 => ?_) (fun h2 => ?_)
  · skip
    refine g_ldc hX dX6_word_10 kc_X6_65 ?_
    subst hQ
    exact g_zretU hX dX6_word_12 (vp_nar_int _) (sv, cr, cf, pr, jd, kp, ks, kl, ctA, ctB, cA, lA, mA, cB, lB, mB, ta, wl) (⟨iR (wordV_bad (n1_lo h2)), hsg⟩) rfl (Nat.le_refl _) (Nat.le_refl _)
  · skip
    refine g_iload_n hX dX6_word_5 rfl ?_
    refine g_iconst hX dX6_word_6 kn_i_5 ?_
    refine g_icmp_le (tgt := 13) hX dX6_word_7 (by decide) (fun h7 => ?_) (fun h7 => ?_)
    · skip
      obtain ⟨n1, gn1, hn1, en1⟩ := n15 (m := 5) (by decide) h2 h7
      subst en1
      refine g_aload_n hX dX6_word_13 rfl ?_
      refine g_getf hX dX6_word_14 fk_X6_58 0 rfl rfl ?_
      refine g_iconst hX dX6_word_17 kn_i_0 ?_
      refine g_iload_n hX dX6_word_18 rfl ?_
      refine g_iast (ws' := [(z0, .inr (7, [.ref s0, .ref v0, .ref d0, .ref y0, .ref b0, .ref i0, .ref i1, .ref i2, .ref i3, .int sd])), (i3, .inl (D.1 100, 5, .inl (upd wl 0 a))), (s0, .inr (6, [.int (r 0), .ref s1, .ref s2, .ref s3, .ref s4, .int (nI u)])), (s1, .inl (D.1 100, 16, .inl (sE r))), (s2, .inl (D.1 100, 8, .inl (sB r))), (s3, .inl (D.1 100, 5, .inl (sT r))), (s4, .inl (D.1 100, 64, .inl (sG r))), (v0, .inr (5, [.ref s0, .ref l0, .ref g0, .int sv, .int cr, .int cf, .int pr, .int jd, .int kp, .int ks, .int kl, .ref v1])), (l0, .inr (2, [.ref l1, .int ctA, .ref l2, .ref l3])), (l1, .inl (D.1 100, 8, .inl cA)), (l2, .inl (D.1 100, 8, .inl lA)), (l3, .inl (D.1 100, 8, .inl mA)), (g0, .inr (2, [.ref g1, .int ctB, .ref g2, .ref g3])), (g1, .inl (D.1 100, 8, .inl cB)), (g2, .inl (D.1 100, 8, .inl lB)), (g3, .inl (D.1 100, 8, .inl mB)), (v1, .inl (D.1 100, 41, .inl ta))]) hX dX6_word_19 1 rfl (by decide) (by omega) rfl ?_
      refine g_aload_n hX dX6_word_20 rfl ?_
      refine g_getf hX dX6_word_21 fk_X6_58 0 rfl rfl ?_
      refine g_iconst hX dX6_word_24 kn_i_1 ?_
      refine g_iload_n hX dX6_word_25 rfl ?_
      refine g_iast (ws' := [(z0, .inr (7, [.ref s0, .ref v0, .ref d0, .ref y0, .ref b0, .ref i0, .ref i1, .ref i2, .ref i3, .int sd])), (i3, .inl (D.1 100, 5, .inl (upd (upd wl 0 a) 1 b))), (s0, .inr (6, [.int (r 0), .ref s1, .ref s2, .ref s3, .ref s4, .int (nI u)])), (s1, .inl (D.1 100, 16, .inl (sE r))), (s2, .inl (D.1 100, 8, .inl (sB r))), (s3, .inl (D.1 100, 5, .inl (sT r))), (s4, .inl (D.1 100, 64, .inl (sG r))), (v0, .inr (5, [.ref s0, .ref l0, .ref g0, .int sv, .int cr, .int cf, .int pr, .int jd, .int kp, .int ks, .int kl, .ref v1])), (l0, .inr (2, [.ref l1, .int ctA, .ref l2, .ref l3])), (l1, .inl (D.1 100, 8, .inl cA)), (l2, .inl (D.1 100, 8, .inl lA)), (l3, .inl (D.1 100, 8, .inl mA)), (g0, .inr (2, [.ref g1, .int ctB, .ref g2, .ref g3])), (g1, .inl (D.1 100, 8, .inl cB)), (g2, .inl (D.1 100, 8, .inl lB)), (g3, .inl (D.1 100, 8, .inl mB)), (v1, .inl (D.1 100, 41, .inl ta))]) hX dX6_word_26 1 rfl (by decide) (by omega) rfl ?_
      refine g_aload_n hX dX6_word_27 rfl ?_
      refine g_getf hX dX6_word_28 fk_X6_58 0 rfl rfl ?_
      refine g_iconst hX dX6_word_31 kn_i_2 ?_
      refine g_iload hX dX6_word_32 rfl ?_
      refine g_iast (ws' := [(z0, .inr (7, [.ref s0, .ref v0, .ref d0, .ref y0, .ref b0, .ref i0, .ref i1, .ref i2, .ref i3, .int sd])), (i3, .inl (D.1 100, 5, .inl (upd (upd (upd wl 0 a) 1 b) 2 c))), (s0, .inr (6, [.int (r 0), .ref s1, .ref s2, .ref s3, .ref s4, .int (nI u)])), (s1, .inl (D.1 100, 16, .inl (sE r))), (s2, .inl (D.1 100, 8, .inl (sB r))), (s3, .inl (D.1 100, 5, .inl (sT r))), (s4, .inl (D.1 100, 64, .inl (sG r))), (v0, .inr (5, [.ref s0, .ref l0, .ref g0, .int sv, .int cr, .int cf, .int pr, .int jd, .int kp, .int ks, .int kl, .ref v1])), (l0, .inr (2, [.ref l1, .int ctA, .ref l2, .ref l3])), (l1, .inl (D.1 100, 8, .inl cA)), (l2, .inl (D.1 100, 8, .inl lA)), (l3, .inl (D.1 100, 8, .inl mA)), (g0, .inr (2, [.ref g1, .int ctB, .ref g2, .ref g3])), (g1, .inl (D.1 100, 8, .inl cB)), (g2, .inl (D.1 100, 8, .inl lB)), (g3, .inl (D.1 100, 8, .inl mB)), (v1, .inl (D.1 100, 41, .inl ta))]) hX dX6_word_34 1 rfl (by decide) (by omega) rfl ?_
      refine g_aload_n hX dX6_word_35 rfl ?_
      refine g_getf hX dX6_word_36 fk_X6_58 0 rfl rfl ?_
      refine g_iconst hX dX6_word_39 kn_i_3 ?_
      refine g_iload hX dX6_word_40 rfl ?_
      refine g_iast (ws' := [(z0, .inr (7, [.ref s0, .ref v0, .ref d0, .ref y0, .ref b0, .ref i0, .ref i1, .ref i2, .ref i3, .int sd])), (i3, .inl (D.1 100, 5, .inl (upd (upd (upd (upd wl 0 a) 1 b) 2 c) 3 d))), (s0, .inr (6, [.int (r 0), .ref s1, .ref s2, .ref s3, .ref s4, .int (nI u)])), (s1, .inl (D.1 100, 16, .inl (sE r))), (s2, .inl (D.1 100, 8, .inl (sB r))), (s3, .inl (D.1 100, 5, .inl (sT r))), (s4, .inl (D.1 100, 64, .inl (sG r))), (v0, .inr (5, [.ref s0, .ref l0, .ref g0, .int sv, .int cr, .int cf, .int pr, .int jd, .int kp, .int ks, .int kl, .ref v1])), (l0, .inr (2, [.ref l1, .int ctA, .ref l2, .ref l3])), (l1, .inl (D.1 100, 8, .inl cA)), (l2, .inl (D.1 100, 8, .inl lA)), (l3, .inl (D.1 100, 8, .inl mA)), (g0, .inr (2, [.ref g1, .int ctB, .ref g2, .ref g3])), (g1, .inl (D.1 100, 8, .inl cB)), (g2, .inl (D.1 100, 8, .inl lB)), (g3, .inl (D.1 100, 8, .inl mB)), (v1, .inl (D.1 100, 41, .inl ta))]) hX dX6_word_42 1 rfl (by decide) (by omega) rfl ?_
      refine g_aload_n hX dX6_word_43 rfl ?_
      refine g_getf hX dX6_word_44 fk_X6_58 0 rfl rfl ?_
      refine g_iconst hX dX6_word_47 kn_i_4 ?_
      refine g_iload hX dX6_word_48 rfl ?_
      refine g_iast (ws' := [(z0, .inr (7, [.ref s0, .ref v0, .ref d0, .ref y0, .ref b0, .ref i0, .ref i1, .ref i2, .ref i3, .int sd])), (i3, .inl (D.1 100, 5, .inl (upd (upd (upd (upd (upd wl 0 a) 1 b) 2 c) 3 d) 4 e))), (s0, .inr (6, [.int (r 0), .ref s1, .ref s2, .ref s3, .ref s4, .int (nI u)])), (s1, .inl (D.1 100, 16, .inl (sE r))), (s2, .inl (D.1 100, 8, .inl (sB r))), (s3, .inl (D.1 100, 5, .inl (sT r))), (s4, .inl (D.1 100, 64, .inl (sG r))), (v0, .inr (5, [.ref s0, .ref l0, .ref g0, .int sv, .int cr, .int cf, .int pr, .int jd, .int kp, .int ks, .int kl, .ref v1])), (l0, .inr (2, [.ref l1, .int ctA, .ref l2, .ref l3])), (l1, .inl (D.1 100, 8, .inl cA)), (l2, .inl (D.1 100, 8, .inl lA)), (l3, .inl (D.1 100, 8, .inl mA)), (g0, .inr (2, [.ref g1, .int ctB, .ref g2, .ref g3])), (g1, .inl (D.1 100, 8, .inl cB)), (g2, .inl (D.1 100, 8, .inl lB)), (g3, .inl (D.1 100, 8, .inl mB)), (v1, .inl (D.1 100, 41, .inl ta))]) hX dX6_word_50 1 rfl (by decide) (by omega) rfl ?_
      show G X Q [(z0, .inr (7, [.ref s0, .ref v0, .ref d0, .ref y0, .ref b0, .ref i0, .ref i1, .ref i2, .ref i3, .int sd])), (i3, .inl (D.1 100, 5, .inl (wlU wl a b c d e))), (s0, .inr (6, [.int (r 0), .ref s1, .ref s2, .ref s3, .ref s4, .int (nI u)])), (s1, .inl (D.1 100, 16, .inl (sE r))), (s2, .inl (D.1 100, 8, .inl (sB r))), (s3, .inl (D.1 100, 5, .inl (sT r))), (s4, .inl (D.1 100, 64, .inl (sG r))), (v0, .inr (5, [.ref s0, .ref l0, .ref g0, .int sv, .int cr, .int cf, .int pr, .int jd, .int kp, .int ks, .int kl, .ref v1])), (l0, .inr (2, [.ref l1, .int ctA, .ref l2, .ref l3])), (l1, .inl (D.1 100, 8, .inl cA)), (l2, .inl (D.1 100, 8, .inl lA)), (l3, .inl (D.1 100, 8, .inl mA)), (g0, .inr (2, [.ref g1, .int ctB, .ref g2, .ref g3])), (g1, .inl (D.1 100, 8, .inl cB)), (g2, .inl (D.1 100, 8, .inl lB)), (g3, .inl (D.1 100, 8, .inl mB)), (v1, .inl (D.1 100, 41, .inl ta))] 0 0 51 [some (.ref z0), some (.int (nI n1)), some (.int a), some (.int b), some (.int c), some (.int d), some (.int e), none, none] []
      have hwl := wlU_X (f := wl) (a := a) (b := b) (c := c) (d := d) (e := e)
      refine g_iconst hX dX6_word_51 kn_i_0 ?_
      refine g_istore (L' := [some (.ref z0), some (.int (nI n1)), some (.int a), some (.int b), some (.int c), some (.int d), some (.int e), some (.int (nI 0)), none]) hX dX6_word_52 (by decide) rfl ?_
      have loop54 : ∀ k : Nat, k ≤ n1 → (allKn r (wlX a b c d e) k = true) → G X Q [(z0, .inr (7, [.ref s0, .ref v0, .ref d0, .ref y0, .ref b0, .ref i0, .ref i1, .ref i2, .ref i3, .int sd])), (i3, .inl (D.1 100, 5, .inl (wlU wl a b c d e))), (s0, .inr (6, [.int (r 0), .ref s1, .ref s2, .ref s3, .ref s4, .int (nI u)])), (s1, .inl (D.1 100, 16, .inl (sE r))), (s2, .inl (D.1 100, 8, .inl (sB r))), (s3, .inl (D.1 100, 5, .inl (sT r))), (s4, .inl (D.1 100, 64, .inl (sG r))), (v0, .inr (5, [.ref s0, .ref l0, .ref g0, .int sv, .int cr, .int cf, .int pr, .int jd, .int kp, .int ks, .int kl, .ref v1])), (l0, .inr (2, [.ref l1, .int ctA, .ref l2, .ref l3])), (l1, .inl (D.1 100, 8, .inl cA)), (l2, .inl (D.1 100, 8, .inl lA)), (l3, .inl (D.1 100, 8, .inl mA)), (g0, .inr (2, [.ref g1, .int ctB, .ref g2, .ref g3])), (g1, .inl (D.1 100, 8, .inl cB)), (g2, .inl (D.1 100, 8, .inl lB)), (g3, .inl (D.1 100, 8, .inl mB)), (v1, .inl (D.1 100, 41, .inl ta))] 0 0 54 [some (.ref z0), some (.int (nI n1)), some (.int a), some (.int b), some (.int c), some (.int d), some (.int e), some (.int (nI k)), none] [] := by
        refine loopN n1 (fun k hh54 ih54 => ?_)
        intro hall
        refine g_iload hX dX6_word_54 rfl ?_
        refine g_iload_n hX dX6_word_56 rfl ?_
        refine g_icmpN_ge (tgt := 86) hX dX6_word_57 (by decide) (by omega) (by omega) (fun h57 => ?_) (fun h57 => ?_)
        · skip
          obtain rfl : n1 = k := by omega
          refine g_aload_n hX dX6_word_86 rfl ?_
          refine g_getf hX dX6_word_87 fk_X6_21 0 rfl rfl ?_
          refine g_call hX dX6_word_90 cw_X6_95 (ct_X4_settle  (by first | with_reducible assumption | assumption) hlk hsg.2) 7 5 [7, 2, 3, 5, 8, 9, 10, 11, 12, 13, 14, 15] rfl rfl rfl rfl (by decide) rfl (fun ⟨_, _, _, _⟩ => rfl) ⟨by decide, by decide⟩ (Nat.le_of_ble_eq_true rfl) ⟨Nat.le_refl _, Nat.le_refl _⟩ (fun vgh ugh hp => ?_)
          obtain ⟨lC90, mC90, lE90, mE90⟩ := ugh
          obtain ⟨rfl⟩ := hp
          show G X Q [(z0, .inr (7, [.ref s0, .ref v0, .ref d0, .ref y0, .ref b0, .ref i0, .ref i1, .ref i2, .ref i3, .int sd])), (i3, .inl (D.1 100, 5, .inl (wlU wl a b c d e))), (s0, .inr (6, [.int (r 0), .ref s1, .ref s2, .ref s3, .ref s4, .int (nI u)])), (s1, .inl (D.1 100, 16, .inl (sE r))), (s2, .inl (D.1 100, 8, .inl (sB r))), (s3, .inl (D.1 100, 5, .inl (sT r))), (s4, .inl (D.1 100, 64, .inl (sG r))), (v0, .inr (5, [.ref s0, .ref l0, .ref g0, .int (nI u), .int cr, .int cf, .int pr, .int jd, .int kp, .int ks, .int kl, .ref v1])), (l0, .inr (2, [.ref l1, .int (nI (clM r 0)), .ref l2, .ref l3])), (l1, .inl (D.1 100, 8, .inl (clA r 0))), (l2, .inl (D.1 100, 8, .inl lC90)), (l3, .inl (D.1 100, 8, .inl mC90)), (g0, .inr (2, [.ref g1, .int (nI (clM r 1)), .ref g2, .ref g3])), (g1, .inl (D.1 100, 8, .inl (clA r 1))), (g2, .inl (D.1 100, 8, .inl lE90)), (g3, .inl (D.1 100, 8, .inl mE90)), (v1, .inl (D.1 100, 41, .inl ta))] 0 0 93 [some (.ref z0), some (.int (nI n1)), some (.int a), some (.int b), some (.int c), some (.int d), some (.int e), some (.int (nI n1)), none] []
          refine g_sipush hX dX6_word_93 kn_s_1000 ?_
          refine g_istore (L' := [some (.ref z0), some (.int (nI n1)), some (.int a), some (.int b), some (.int c), some (.int d), some (.int e), some (.int (nI 1000)), none]) hX dX6_word_96 (by decide) rfl ?_
          refine g_iconst hX dX6_word_98 kn_i_0 ?_
          refine g_istore (L' := [some (.ref z0), some (.int (nI n1)), some (.int a), some (.int b), some (.int c), some (.int d), some (.int e), some (.int (nI 1000)), some (.int (nI 0))]) hX dX6_word_99 (by decide) rfl ?_
          have loop101 : ∀ z : Nat × Int32 × Int32 × Int32 × Int32 × Int32 × Int32 × Int32 × (Nat → Int32), match z with | (m, x4, x5, x6, x7, x8, x9, x10, xt) => (m ≤ n1) → G X Q [(z0, .inr (7, [.ref s0, .ref v0, .ref d0, .ref y0, .ref b0, .ref i0, .ref i1, .ref i2, .ref i3, .int sd])), (i3, .inl (D.1 100, 5, .inl (wlU wl a b c d e))), (s0, .inr (6, [.int (r 0), .ref s1, .ref s2, .ref s3, .ref s4, .int (nI u)])), (s1, .inl (D.1 100, 16, .inl (sE r))), (s2, .inl (D.1 100, 8, .inl (sB r))), (s3, .inl (D.1 100, 5, .inl (sT r))), (s4, .inl (D.1 100, 64, .inl (sG r))), (v0, .inr (5, [.ref s0, .ref l0, .ref g0, .int (nI u), .int x4, .int x5, .int x6, .int x7, .int x8, .int x9, .int x10, .ref v1])), (l0, .inr (2, [.ref l1, .int (nI (clM r 0)), .ref l2, .ref l3])), (l1, .inl (D.1 100, 8, .inl (clA r 0))), (l2, .inl (D.1 100, 8, .inl lC90)), (l3, .inl (D.1 100, 8, .inl mC90)), (g0, .inr (2, [.ref g1, .int (nI (clM r 1)), .ref g2, .ref g3])), (g1, .inl (D.1 100, 8, .inl (clA r 1))), (g2, .inl (D.1 100, 8, .inl lE90)), (g3, .inl (D.1 100, 8, .inl mE90)), (v1, .inl (D.1 100, 41, .inl xt))] 0 0 101 [some (.ref z0), some (.int (nI n1)), some (.int a), some (.int b), some (.int c), some (.int d), some (.int e), some (.int (wordTo r (wlX a b c d e) m)), some (.int (nI m))] [] := by
            refine loopM (fun z : Nat × Int32 × Int32 × Int32 × Int32 × Int32 × Int32 × Int32 × (Nat → Int32) => match z with | (m, x4, x5, x6, x7, x8, x9, x10, xt) => n1 - m) (fun z ih101 => ?_)
            obtain ⟨m, x4, x5, x6, x7, x8, x9, x10, xt⟩ := z
            intro hmN
            refine g_iload hX dX6_word_101 rfl ?_
            refine g_iload_n hX dX6_word_103 rfl ?_
            refine g_icmpN_ge (tgt := 166) hX dX6_word_104 (by decide) (by omega) (by omega) (fun h104 => ?_) (fun h104 => ?_)
            · skip
              obtain rfl : n1 = m := by omega
              refine g_iload hX dX6_word_166 rfl ?_
              subst hQ
              exact g_zretU hX dX6_word_168 (vp_nar_int _) ((nI u), x4, x5, x6, x7, x8, x9, x10, (nI (clM r 0)), (nI (clM r 1)), (clA r 0), lC90, mC90, (clA r 1), lE90, mE90, xt, (wlU wl a b c d e)) (⟨iR (wordV_ok gn1 hn1 hall), sgP_set⟩) rfl (Nat.le_refl _) (Nat.le_refl _)
            · skip
              obtain ⟨p1, hp1, ep1, kp1⟩ := isKn_in (allKn_get hall m (by omega))
              refine g_iload hX dX6_word_107 rfl ?_
              refine g_aload_n hX dX6_word_109 rfl ?_
              refine g_getf hX dX6_word_110 fk_X6_10 0 rfl rfl ?_
              refine g_getf hX dX6_word_113 fk_X6_146 2 rfl rfl ?_
              refine g_aload_n hX dX6_word_116 rfl ?_
              refine g_getf hX dX6_word_117 fk_X6_58 0 rfl rfl ?_
              refine g_iload hX dX6_word_120 rfl ?_
              refine g_iald hX dX6_word_122 1 rfl (by decide) (by omega) ?_
              refine g_top (v' := nI p1) ((hwl m (by omega)).trans ep1) ?_
              refine g_iald hX dX6_word_123 4 rfl (by decide) (by omega) ?_
              refine g_iadd hX dX6_word_124 ?_
              refine g_istore (L' := [some (.ref z0), some (.int (nI n1)), some (.int a), some (.int b), some (.int c), some (.int d), some (.int e), some (.int ((wordTo r (wlX a b c d e) m) + ((sB r) p1))), some (.int (nI m))]) hX dX6_word_125 (by decide) rfl ?_
              refine g_iload hX dX6_word_127 rfl ?_
              refine g_ifN_le (tgt := 160) hX dX6_word_129 (by decide) (by omega) (fun h129 => ?_) (fun h129 => ?_)
              · skip
                refine g_iincN (L' := [some (.ref z0), some (.int (nI n1)), some (.int a), some (.int b), some (.int c), some (.int d), some (.int e), some (.int ((wordTo r (wlX a b c d e) m) + ((sB r) p1))), some (.int (nI (m + 1)))]) hX dX6_word_160 rfl (by decide) rfl ?_
                refine g_goto (tgt := 101) hX dX6_word_163 (by decide) ?_
                exact g_fin (ih101 (m + 1, x4, x5, x6, x7, x8, x9, x10, xt) (by show n1 - (m + 1) < n1 - m; omega) (by omega)) (rfl) rfl ⟨rfl, rfl, rfl, rfl, rfl, rfl, rfl, (congrArg some (congrArg Value.int ((wo_z h129 hp1 ep1)))), rfl, trivial⟩
              · skip
                obtain ⟨r1, hr1, er1, kr1⟩ := isKn_in (allKn_get hall (m - 1) (by omega))
                refine g_iload hX dX6_word_132 rfl ?_
                refine g_aload_n hX dX6_word_134 rfl ?_
                refine g_getf hX dX6_word_135 fk_X6_21 0 rfl rfl ?_
                refine g_aload_n hX dX6_word_138 rfl ?_
                refine g_getf hX dX6_word_139 fk_X6_58 0 rfl rfl ?_
                refine g_iload hX dX6_word_142 rfl ?_
                refine g_iconst hX dX6_word_144 kn_i_1 ?_
                refine g_isubN hX dX6_word_145 (by omega) ?_
                refine g_iald hX dX6_word_146 1 rfl (by decide) (by omega) ?_
                refine g_top (v' := nI r1) ((hwl (m - 1) (by omega)).trans er1) ?_
                refine g_aload_n hX dX6_word_147 rfl ?_
                refine g_getf hX dX6_word_148 fk_X6_58 0 rfl rfl ?_
                refine g_iload hX dX6_word_151 rfl ?_
                refine g_iald hX dX6_word_153 1 rfl (by decide) (by omega) ?_
                refine g_top (v' := nI p1) ((hwl m (by omega)).trans ep1) ?_
                refine g_call hX dX6_word_154 cw_X6_159 (ct_X4_gapOfPair  (by first | with_reducible assumption | assumption) (by first | with_reducible assumption | assumption) (by first | with_reducible assumption | assumption) (by omega) (by first | with_reducible assumption | assumption) (by omega) (by omega) (by omega) (by first | with_reducible assumption | assumption) (by first | with_reducible assumption | assumption)) 7 5 [7, 2, 3, 5, 6, 8, 9, 12, 13, 16] rfl rfl rfl rfl (by decide) rfl (fun ⟨_, _, _, _, _, _, _, _⟩ => rfl) ⟨by decide, by decide⟩ (Nat.le_of_ble_eq_true rfl) ⟨Nat.le_refl _, Nat.le_refl _⟩ (fun vgh ugh hp => ?_)
                obtain ⟨cr2154, cf2154, pr2154, jd2154, kp2154, ks2154, kl2154, ta2154⟩ := ugh
                obtain ⟨rfl⟩ := hp
                show G X Q [(z0, .inr (7, [.ref s0, .ref v0, .ref d0, .ref y0, .ref b0, .ref i0, .ref i1, .ref i2, .ref i3, .int sd])), (i3, .inl (D.1 100, 5, .inl (wlU wl a b c d e))), (s0, .inr (6, [.int (r 0), .ref s1, .ref s2, .ref s3, .ref s4, .int (nI u)])), (s1, .inl (D.1 100, 16, .inl (sE r))), (s2, .inl (D.1 100, 8, .inl (sB r))), (s3, .inl (D.1 100, 5, .inl (sT r))), (s4, .inl (D.1 100, 64, .inl (sG r))), (v0, .inr (5, [.ref s0, .ref l0, .ref g0, .int (nI u), .int cr2154, .int cf2154, .int pr2154, .int jd2154, .int kp2154, .int ks2154, .int kl2154, .ref v1])), (l0, .inr (2, [.ref l1, .int (nI (clM r 0)), .ref l2, .ref l3])), (l1, .inl (D.1 100, 8, .inl (clA r 0))), (l2, .inl (D.1 100, 8, .inl lC90)), (l3, .inl (D.1 100, 8, .inl mC90)), (g0, .inr (2, [.ref g1, .int (nI (clM r 1)), .ref g2, .ref g3])), (g1, .inl (D.1 100, 8, .inl (clA r 1))), (g2, .inl (D.1 100, 8, .inl lE90)), (g3, .inl (D.1 100, 8, .inl mE90)), (v1, .inl (D.1 100, 41, .inl ta2154))] 0 0 157 [some (.ref z0), some (.int (nI n1)), some (.int a), some (.int b), some (.int c), some (.int d), some (.int e), some (.int ((wordTo r (wlX a b c d e) m) + ((sB r) p1))), some (.int (nI m))] [.int (gapOf r (cq r) r1 p1 - nI 100), .int ((wordTo r (wlX a b c d e) m) + ((sB r) p1))]
                refine g_iadd hX dX6_word_157 ?_
                refine g_istore (L' := [some (.ref z0), some (.int (nI n1)), some (.int a), some (.int b), some (.int c), some (.int d), some (.int e), some (.int (((wordTo r (wlX a b c d e) m) + ((sB r) p1)) + (gapOf r (cq r) r1 p1 - nI 100))), some (.int (nI m))]) hX dX6_word_158 (by decide) rfl ?_
                refine g_iincN (L' := [some (.ref z0), some (.int (nI n1)), some (.int a), some (.int b), some (.int c), some (.int d), some (.int e), some (.int (((wordTo r (wlX a b c d e) m) + ((sB r) p1)) + (gapOf r (cq r) r1 p1 - nI 100))), some (.int (nI (m + 1)))]) hX dX6_word_160 rfl (by decide) rfl ?_
                refine g_goto (tgt := 101) hX dX6_word_163 (by decide) ?_
                exact g_fin (ih101 (m + 1, cr2154, cf2154, pr2154, jd2154, kp2154, ks2154, kl2154, ta2154) (by show n1 - (m + 1) < n1 - m; omega) (by omega)) (rfl) rfl ⟨rfl, rfl, rfl, rfl, rfl, rfl, rfl, (congrArg some (congrArg Value.int ((wo_t h129 hp1 hr1 ep1 er1)))), rfl, trivial⟩
          exact g_fin (loop101 (0, cr, cf, pr, jd, kp, ks, kl, ta) (by omega)) (rfl) rfl ⟨rfl, rfl, rfl, rfl, rfl, rfl, rfl, (congrArg some (congrArg Value.int wordTo_0)), rfl, trivial⟩
        · skip
          refine g_aload_n hX dX6_word_60 rfl ?_
          refine g_getf hX dX6_word_61 fk_X6_10 0 rfl rfl ?_
          refine g_aload_n hX dX6_word_64 rfl ?_
          refine g_getf hX dX6_word_65 fk_X6_58 0 rfl rfl ?_
          refine g_iload hX dX6_word_68 rfl ?_
          refine g_iald hX dX6_word_70 1 rfl (by decide) (by omega) ?_
          refine g_callRi hX dX6_word_71 cw_X6_135 ct_X5_knows 2 6 [2] rfl rfl rfl rfl (by decide) rfl ⟨by decide, by decide⟩ (Nat.le_of_ble_eq_true rfl) (Nat.le_refl _) (Nat.le_refl _) ?_
          refine g_ifb_ne (tgt := 80) hX dX6_word_74 (by decide) (fun h74 => ?_) (fun h74 => ?_)
          · skip
            refine g_iincN (L' := [some (.ref z0), some (.int (nI n1)), some (.int a), some (.int b), some (.int c), some (.int d), some (.int e), some (.int (nI (k + 1))), none]) hX dX6_word_80 rfl (by decide) rfl ?_
            refine g_goto (tgt := 54) hX dX6_word_83 (by decide) ?_
            exact g_fin (ih54 (by omega) (by unfold allKn; rw [hall, ← hwl k (by omega), h74]; rfl)) (rfl) rfl ⟨rfl, rfl, rfl, rfl, rfl, rfl, rfl, rfl, trivial⟩
          · skip
            refine g_ldc hX dX6_word_77 kc_X6_138 ?_
            subst hQ
            exact g_zretU hX dX6_word_79 (vp_nar_int _) (sv, cr, cf, pr, jd, kp, ks, kl, ctA, ctB, cA, lA, mA, cB, lB, mB, ta, (wlU wl a b c d e)) (⟨iR (wordV_no gn1 hn1 (allKn_no (by rw [← hwl k (by omega)]; exact h74) (by omega))), hsg⟩) rfl (Nat.le_refl _) (Nat.le_refl _)
      exact g_fin (loop54 0 (by omega) rfl) (rfl) rfl ⟨rfl, rfl, rfl, rfl, rfl, rfl, rfl, rfl, trivial⟩
    · skip
      refine g_ldc hX dX6_word_10 kc_X6_65 ?_
      subst hQ
      exact g_zretU hX dX6_word_12 (vp_nar_int _) (sv, cr, cf, pr, jd, kp, ks, kl, ctA, ctB, cA, lA, mA, cB, lB, mB, ta, wl) (⟨iR (wordV_bad (n5_hi h7)), hsg⟩) rfl (Nat.le_refl _) (Nat.le_refl _)
