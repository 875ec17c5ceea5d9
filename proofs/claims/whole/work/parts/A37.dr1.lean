theorem dr_end {nx : Nat → Nat} {rn : Nat → Nat → Nat} {r r1 : Nat → Int32} {fi pc s u n f1 c1 u1 s1 : Nat} {rh rh1 : Nat → Nat → Int32} (h1 : 1 ≤ n) (h2 : n ≤ 12) (h : drP nx rn r fi pc rh s u n f1 c1 rh1 r1 u1 s1) : (r1 0, r1, s1, f1, c1, rh1) = driftC nx rn r fi pc rh s (nI n) := by
  unfold driftC
  rw [in112 h1 h2, nI_cl (by omega), if_pos rfl, ← h.1, ← h.2.1]
set_option maxRecDepth 100000 in
set_option maxHeartbeats 4000000 in
theorem ct_X6_draw {l : Launch} {D : va_G} {z0 s0 v0 d0 y0 b0 i0 i1 i2 i3 : Nat}   {s : Nat} {nx : Nat → Nat} {rn : Nat → Nat → Nat} {n : Nat} (hN : nx = nxN) (hR : rn = rnN) (hn : 0 < n) (hn2 : n < 100) : Cf l D yX6_draw cX6_draw 2 (some .int) 0 0 [.ref z0, .int (nI n)] [(z0, .inr (7, [.ref s0, .ref v0, .ref d0, .ref y0, .ref b0, .ref i0, .ref i1, .ref i2, .ref i3, .int (nI s)]))] (some (.int (nI (rn (nx s) n)))) [(z0, .inr (7, [.ref s0, .ref v0, .ref d0, .ref y0, .ref b0, .ref i0, .ref i1, .ref i2, .ref i3, .int (nI (nx s))]))] := by
  refine Ct.ofG (by decide) (Nat.le_of_ble_eq_true rfl) ?_
  intro X hX
  have hX : CX X l D RX6 "draw" cX6_draw 2 (some .int) 0 0 0 0 := hX
  show G X (QF X (some (.int (nI (rn (nx s) n)))) [(z0, .inr (7, [.ref s0, .ref v0, .ref d0, .ref y0, .ref b0, .ref i0, .ref i1, .ref i2, .ref i3, .int (nI (nx s))]))]) [(z0, .inr (7, [.ref s0, .ref v0, .ref d0, .ref y0, .ref b0, .ref i0, .ref i1, .ref i2, .ref i3, .int (nI s)]))] 0 0 0 [some (.ref z0), some (.int (nI n))] []
  generalize hQ : QF X (some (.int (nI (rn (nx s) n)))) [(z0, .inr (7, [.ref s0, .ref v0, .ref d0, .ref y0, .ref b0, .ref i0, .ref i1, .ref i2, .ref i3, .int (nI (nx s))]))] = Q
  refine g_aload_n hX dX6_draw_0 rfl ?_
  refine g_aload_n hX dX6_draw_1 rfl ?_
  refine g_getf hX dX6_draw_2 fk_X6_61 0 rfl rfl ?_
  refine g_ldcw hX dX6_draw_5 kc_X6_260 ?_
  refine g_imul hX dX6_draw_8 ?_
  refine g_sipush hX dX6_draw_9 kn_s_12345 ?_
  refine g_iadd hX dX6_draw_12 ?_
  refine g_ldcw hX dX6_draw_13 kc_X6_261 ?_
  refine g_iand hX dX6_draw_16 ?_
  refine g_top (v' := nI (nx s)) (by rw [hN]; exact draw_c) ?_
  have hnx : nx s < 2147483648 := by rw [hN]; exact nxN_lt s
  refine g_puti (ws' := [(z0, .inr (7, [.ref s0, .ref v0, .ref d0, .ref y0, .ref b0, .ref i0, .ref i1, .ref i2, .ref i3, .int (nI (nx s))]))]) hX dX6_draw_17 fp_X6_61 0 rfl (Nat.le_of_ble_eq_true rfl) rfl ?_
  refine g_iload_n hX dX6_draw_20 rfl ?_
  refine g_ifN_le (tgt := 37) hX dX6_draw_21 (by decide) (by omega) (fun h => absurd h (by omega)) (fun h21 => ?_)
  refine g_aload_n hX dX6_draw_24 rfl ?_
  refine g_getf hX dX6_draw_25 fk_X6_61 0 rfl rfl ?_
  refine g_ldcw hX dX6_draw_28 kc_X6_262 ?_
  refine g_top (v' := nI 65536) (by decide) ?_
  refine g_idivN hX dX6_draw_31 (by omega) (by omega) (by omega) ?_
  refine g_iload_n hX dX6_draw_32 rfl ?_
  refine g_iremN hX dX6_draw_33 (by omega) (by omega) (by omega) ?_
  refine g_top (v' := nI (rn (nx s) n)) (by rw [hR]; exact rnN_eq _ _) ?_
  refine g_goto (tgt := 38) hX dX6_draw_34 (by decide) ?_
  subst hQ
  exact g_iret hX dX6_draw_38 (rfl) (rfl) rfl rfl
set_option maxRecDepth 100000 in
set_option maxHeartbeats 4000000 in
theorem ct_X6_drawEdge {l : Launch} {D : va_G} {z0 s0 v0 d0 y0 b0 i0 i1 i2 i3 : Nat}   {s : Nat} {nx : Nat → Nat} {rn : Nat → Nat → Nat} (hN : nx = nxN) (hR : rn = rnN) : Cf l D yX6_drawEdge cX6_drawEdge 3 (some .int) 1 21 [.ref z0] [(z0, .inr (7, [.ref s0, .ref v0, .ref d0, .ref y0, .ref b0, .ref i0, .ref i1, .ref i2, .ref i3, .int (nI s)]))] (some (.int (nI (edF nx rn s 5)))) [(z0, .inr (7, [.ref s0, .ref v0, .ref d0, .ref y0, .ref b0, .ref i0, .ref i1, .ref i2, .ref i3, .int (nI (nxIt nx 5 s))]))] := by
  refine Ct.ofG (by decide) (Nat.le_of_ble_eq_true rfl) ?_
  intro X hX
  have hX : CX X l D RX6 "drawEdge" cX6_drawEdge 3 (some .int) 1 21 0 0 := hX
  show G X (QF X (some (.int (nI (edF nx rn s 5)))) [(z0, .inr (7, [.ref s0, .ref v0, .ref d0, .ref y0, .ref b0, .ref i0, .ref i1, .ref i2, .ref i3, .int (nI (nxIt nx 5 s))]))]) [(z0, .inr (7, [.ref s0, .ref v0, .ref d0, .ref y0, .ref b0, .ref i0, .ref i1, .ref i2, .ref i3, .int (nI s)]))] 0 0 0 [some (.ref z0), none, none] []
  generalize hQ : QF X (some (.int (nI (edF nx rn s 5)))) [(z0, .inr (7, [.ref s0, .ref v0, .ref d0, .ref y0, .ref b0, .ref i0, .ref i1, .ref i2, .ref i3, .int (nI (nxIt nx 5 s))]))] = Q
  refine g_iconst hX dX6_drawEdge_0 kn_i_0 ?_
  refine g_istore_n (L' := [some (.ref z0), some (.int (nI 0)), none]) hX dX6_drawEdge_1 (by decide) rfl ?_
  refine g_iconst hX dX6_drawEdge_2 kn_i_0 ?_
  refine g_istore_n (L' := [some (.ref z0), some (.int (nI 0)), some (.int (nI 0))]) hX dX6_drawEdge_3 (by decide) rfl ?_
  have loop4 : ∀ h : Nat, h ≤ 5 → G X Q [(z0, .inr (7, [.ref s0, .ref v0, .ref d0, .ref y0, .ref b0, .ref i0, .ref i1, .ref i2, .ref i3, .int (nI (nxIt nx h s))]))] 0 0 4 [some (.ref z0), some (.int (nI (edF nx rn s h))), some (.int (nI h))] [] := by
    refine loopN 5 (fun h hh4 ih4 => ?_)
    refine g_iload_n hX dX6_drawEdge_4 rfl ?_
    refine g_iconst hX dX6_drawEdge_5 kn_i_5 ?_
    refine g_icmpN_ge (tgt := 26) hX dX6_drawEdge_6 (by decide) (by omega) (by omega) (fun h6 => ?_) (fun h6 => ?_)
    · skip
      obtain rfl : h = 5 := by omega
      refine g_iload_n hX dX6_drawEdge_26 rfl ?_
      subst hQ
      exact g_iret hX dX6_drawEdge_27 (rfl) (rfl) rfl rfl
    · skip
      refine g_bipush hX dX6_drawEdge_9 kn_b_10 ?_
      refine g_iload_n hX dX6_drawEdge_11 rfl ?_
      refine g_imulN hX dX6_drawEdge_12 ?_
      refine g_aload_n hX dX6_drawEdge_13 rfl ?_
      refine g_iconst hX dX6_drawEdge_14 kn_i_5 ?_
      refine g_callFi (ws' := [(z0, .inr (7, [.ref s0, .ref v0, .ref d0, .ref y0, .ref b0, .ref i0, .ref i1, .ref i2, .ref i3, .int (nI (nx (nxIt nx h s)))]))]) hX dX6_drawEdge_15 cw_X6_253 (ct_X6_draw  (by first | with_reducible assumption | assumption) (by first | with_reducible assumption | assumption) (by omega) (by omega)) 0 7 [0] rfl rfl rfl rfl (by decide) rfl rfl ⟨by decide, by decide⟩ (Nat.le_of_ble_eq_true rfl) (Nat.le_refl _) (Nat.le_refl _) rfl ?_
      refine g_iaddN hX dX6_drawEdge_18 ?_
      refine g_istore_n (L' := [some (.ref z0), some (.int (nI ((10 * (edF nx rn s h)) + (rn (nx (nxIt nx h s)) 5)))), some (.int (nI h))]) hX dX6_drawEdge_19 (by decide) rfl ?_
      refine g_iincN (L' := [some (.ref z0), some (.int (nI ((10 * (edF nx rn s h)) + (rn (nx (nxIt nx h s)) 5)))), some (.int (nI (h + 1)))]) hX dX6_drawEdge_20 rfl (by decide) rfl ?_
      refine g_goto (tgt := 4) hX dX6_drawEdge_23 (by decide) ?_
      exact g_fin (ih4 (by omega) ) (rfl) rfl ⟨rfl, rfl, rfl, trivial⟩
  exact g_fin (loop4 0 (by omega) ) (rfl) rfl ⟨rfl, rfl, rfl, trivial⟩
set_option maxRecDepth 100000 in
set_option maxHeartbeats 4000000 in
theorem ct_X6_driftOnce {l : Launch} {D : va_G} {z0 s0 s1 s2 s3 s4 v0 d0 y0 b0 i0 i1 i2 i3 u : Nat} {r : Nat → Int32}  {s : Nat} {nx : Nat → Nat} {rn : Nat → Nat → Nat} (hN : nx = nxN) (hR : rn = rnN) : Ct (S := (Nat → Int32) × Nat × Nat) l D yX6_driftOnce cX6_driftOnce 4 none 2 43 0 0 [.ref z0] [(z0, .inr (7, [.ref s0, .ref v0, .ref d0, .ref y0, .ref b0, .ref i0, .ref i1, .ref i2, .ref i3, .int (nI s)])), (s0, .inr (6, [.int (r 0), .ref s1, .ref s2, .ref s3, .ref s4, .int (nI u)])), (s1, .inl (D.1 100, 16, .inl (sE r))), (s2, .inl (D.1 100, 8, .inl (sB r))), (s3, .inl (D.1 100, 5, .inl (sT r))), (s4, .inl (D.1 100, 64, .inl (sG r)))] (fun (rv : Option Value) (ugh : (Nat → Int32) × Nat × Nat) => match ugh with | (r2, u2, S2) => rv = none ∧ ((r2, S2) = chC nx rn r s) ∧ ((u2 = u ∧ r2 = r) ∨ u2 = u + 1)) (fun (ugh : (Nat → Int32) × Nat × Nat) => match ugh with | (r2, u2, S2) => ([(z0, .inr (7, [.ref s0, .ref v0, .ref d0, .ref y0, .ref b0, .ref i0, .ref i1, .ref i2, .ref i3, .int (nI S2)])), (s0, .inr (6, [.int (r2 0), .ref s1, .ref s2, .ref s3, .ref s4, .int (nI u2)])), (s1, .inl (D.1 100, 16, .inl (sE r2))), (s2, .inl (D.1 100, 8, .inl (sB r2))), (s3, .inl (D.1 100, 5, .inl (sT r2))), (s4, .inl (D.1 100, 64, .inl (sG r2)))] : va_W)) := by
  refine Ct.ofG (by decide) (Nat.le_of_ble_eq_true rfl) ?_
  intro X hX
  have hX : CX X l D RX6 "driftOnce" cX6_driftOnce 4 none 2 43 0 0 := hX
  show G X (QM X 0 0 (fun (rv : Option Value) (ugh : (Nat → Int32) × Nat × Nat) => match ugh with | (r2, u2, S2) => rv = none ∧ ((r2, S2) = chC nx rn r s) ∧ ((u2 = u ∧ r2 = r) ∨ u2 = u + 1)) (fun (ugh : (Nat → Int32) × Nat × Nat) => match ugh with | (r2, u2, S2) => ([(z0, .inr (7, [.ref s0, .ref v0, .ref d0, .ref y0, .ref b0, .ref i0, .ref i1, .ref i2, .ref i3, .int (nI S2)])), (s0, .inr (6, [.int (r2 0), .ref s1, .ref s2, .ref s3, .ref s4, .int (nI u2)])), (s1, .inl (D.1 100, 16, .inl (sE r2))), (s2, .inl (D.1 100, 8, .inl (sB r2))), (s3, .inl (D.1 100, 5, .inl (sT r2))), (s4, .inl (D.1 100, 64, .inl (sG r2)))] : va_W))) [(z0, .inr (7, [.ref s0, .ref v0, .ref d0, .ref y0, .ref b0, .ref i0, .ref i1, .ref i2, .ref i3, .int (nI s)])), (s0, .inr (6, [.int (r 0), .ref s1, .ref s2, .ref s3, .ref s4, .int (nI u)])), (s1, .inl (D.1 100, 16, .inl (sE r))), (s2, .inl (D.1 100, 8, .inl (sB r))), (s3, .inl (D.1 100, 5, .inl (sT r))), (s4, .inl (D.1 100, 64, .inl (sG r)))] 0 0 0 [some (.ref z0), none, none, none] []
  generalize hQ : QM X 0 0 (fun (rv : Option Value) (ugh : (Nat → Int32) × Nat × Nat) => match ugh with | (r2, u2, S2) => rv = none ∧ ((r2, S2) = chC nx rn r s) ∧ ((u2 = u ∧ r2 = r) ∨ u2 = u + 1)) (fun (ugh : (Nat → Int32) × Nat × Nat) => match ugh with | (r2, u2, S2) => ([(z0, .inr (7, [.ref s0, .ref v0, .ref d0, .ref y0, .ref b0, .ref i0, .ref i1, .ref i2, .ref i3, .int (nI S2)])), (s0, .inr (6, [.int (r2 0), .ref s1, .ref s2, .ref s3, .ref s4, .int (nI u2)])), (s1, .inl (D.1 100, 16, .inl (sE r2))), (s2, .inl (D.1 100, 8, .inl (sB r2))), (s3, .inl (D.1 100, 5, .inl (sT r2))), (s4, .inl (D.1 100, 64, .inl (sG r2)))] : va_W)) = Q
  have hnx : ∀ s, nx s < 2147483648 := by intro s; rw [hN]; exact nxN_lt s
  have hrn : ∀ s n, 0 < n → rn s n < n := by intro s n h; rw [hR]; exact rnN_lt s h
  have hC := hrn (nx s) 8 (by decide)
  have hC2 := hrn (nx (nx s)) 8 (by decide)
  have hC9 := hrn (nx (nx (nx s))) 9 (by decide)
  have hE1 := edF_5 hrn (nx := nx) (nx s) (Nat.le_refl 5)
  have hE2 := edF_5 hrn (nx := nx) (nxIt nx 5 (nx s)) (Nat.le_refl 5)
  refine g_aload_n hX dX6_driftOnce_0 rfl ?_
  refine g_bipush hX dX6_driftOnce_1 kn_b_8 ?_
  refine g_callFi (ws' := [(z0, .inr (7, [.ref s0, .ref v0, .ref d0, .ref y0, .ref b0, .ref i0, .ref i1, .ref i2, .ref i3, .int (nI (nx s))])), (s0, .inr (6, [.int (r 0), .ref s1, .ref s2, .ref s3, .ref s4, .int (nI u)])), (s1, .inl (D.1 100, 16, .inl (sE r))), (s2, .inl (D.1 100, 8, .inl (sB r))), (s3, .inl (D.1 100, 5, .inl (sT r))), (s4, .inl (D.1 100, 64, .inl (sG r)))]) hX dX6_driftOnce_3 cw_X6_253 (ct_X6_draw  (by first | with_reducible assumption | assumption) (by first | with_reducible assumption | assumption) (by omega) (by omega)) 0 7 [0] rfl rfl rfl rfl (by decide) rfl rfl ⟨by decide, by decide⟩ (Nat.le_of_ble_eq_true rfl) (Nat.le_refl _) (Nat.le_refl _) rfl ?_
  refine g_istore_n (L' := [some (.ref z0), some (.int (nI (rn (nx s) 8))), none, none]) hX dX6_driftOnce_6 (by decide) rfl ?_
  refine g_aload_n hX dX6_driftOnce_7 rfl ?_
  refine g_getf hX dX6_driftOnce_8 fk_X6_10 0 rfl rfl ?_
  refine g_iload_n hX dX6_driftOnce_11 rfl ?_
  refine g_callRi hX dX6_driftOnce_12 cw_X6_135 (ct_X5_knows_N  (by omega)) 1 6 [1] rfl rfl rfl rfl (by decide) rfl ⟨by decide, by decide⟩ (Nat.le_of_ble_eq_true rfl) (Nat.le_refl _) (Nat.le_refl _) ?_
  refine g_ifb_ne (tgt := 47) hX dX6_driftOnce_15 (by decide) (fun h15 => ?_) (fun h15 => ?_)
  · skip
    refine g_aload_n hX dX6_driftOnce_47 rfl ?_
    refine g_bipush hX dX6_driftOnce_48 kn_b_8 ?_
    refine g_callFi (ws' := [(z0, .inr (7, [.ref s0, .ref v0, .ref d0, .ref y0, .ref b0, .ref i0, .ref i1, .ref i2, .ref i3, .int (nI (nx (nx s)))])), (s0, .inr (6, [.int (r 0), .ref s1, .ref s2, .ref s3, .ref s4, .int (nI u)])), (s1, .inl (D.1 100, 16, .inl (sE r))), (s2, .inl (D.1 100, 8, .inl (sB r))), (s3, .inl (D.1 100, 5, .inl (sT r))), (s4, .inl (D.1 100, 64, .inl (sG r)))]) hX dX6_driftOnce_50 cw_X6_253 (ct_X6_draw  (by first | with_reducible assumption | assumption) (by first | with_reducible assumption | assumption) (by omega) (by omega)) 0 7 [0] rfl rfl rfl rfl (by decide) rfl rfl ⟨by decide, by decide⟩ (Nat.le_of_ble_eq_true rfl) (Nat.le_refl _) (Nat.le_refl _) rfl ?_
    refine g_istore_n (L' := [some (.ref z0), some (.int (nI (rn (nx s) 8))), some (.int (nI (rn (nx (nx s)) 8))), none]) hX dX6_driftOnce_53 (by decide) rfl ?_
    refine g_aload_n hX dX6_driftOnce_54 rfl ?_
    refine g_bipush hX dX6_driftOnce_55 kn_b_9 ?_
    refine g_callFi (ws' := [(z0, .inr (7, [.ref s0, .ref v0, .ref d0, .ref y0, .ref b0, .ref i0, .ref i1, .ref i2, .ref i3, .int (nI (nx (nx (nx s))))])), (s0, .inr (6, [.int (r 0), .ref s1, .ref s2, .ref s3, .ref s4, .int (nI u)])), (s1, .inl (D.1 100, 16, .inl (sE r))), (s2, .inl (D.1 100, 8, .inl (sB r))), (s3, .inl (D.1 100, 5, .inl (sT r))), (s4, .inl (D.1 100, 64, .inl (sG r)))]) hX dX6_driftOnce_57 cw_X6_253 (ct_X6_draw  (by first | with_reducible assumption | assumption) (by first | with_reducible assumption | assumption) (by omega) (by omega)) 0 7 [0] rfl rfl rfl rfl (by decide) rfl rfl ⟨by decide, by decide⟩ (Nat.le_of_ble_eq_true rfl) (Nat.le_refl _) (Nat.le_refl _) rfl ?_
    refine g_iconst hX dX6_driftOnce_60 kn_i_4 ?_
    refine g_isub hX dX6_driftOnce_61 ?_
    refine g_istore_n (L' := [some (.ref z0), some (.int (nI (rn (nx s) 8))), some (.int (nI (rn (nx (nx s)) 8))), some (.int ((nI (rn (nx (nx (nx s))) 9)) - (nI 4)))]) hX dX6_driftOnce_62 (by decide) rfl ?_
    refine g_aload_n hX dX6_driftOnce_63 rfl ?_
    refine g_getf hX dX6_driftOnce_64 fk_X6_10 0 rfl rfl ?_
    refine g_iload_n hX dX6_driftOnce_67 rfl ?_
    refine g_callRi hX dX6_driftOnce_68 cw_X6_135 (ct_X5_knows_N  (by omega)) 1 6 [1] rfl rfl rfl rfl (by decide) rfl ⟨by decide, by decide⟩ (Nat.le_of_ble_eq_true rfl) (Nat.le_refl _) (Nat.le_refl _) ?_
    refine g_ifb_eq (tgt := 84) hX dX6_driftOnce_71 (by decide) (fun h71 => ?_) (fun h71 => ?_)
    · skip
      subst hQ
      exact g_vretU hX dX6_driftOnce_84 (r, u, (nx (nx (nx s)))) (⟨rfl, by unfold chC; rw [if_pos h15, if_neg (by rw [h71]; decide)], Or.inl ⟨rfl, rfl⟩⟩) rfl (Nat.le_refl _) (Nat.le_refl _)
    · skip
      refine g_aload_n hX dX6_driftOnce_74 rfl ?_
      refine g_getf hX dX6_driftOnce_75 fk_X6_10 0 rfl rfl ?_
      refine g_iload_n hX dX6_driftOnce_78 rfl ?_
      refine g_iload_n hX dX6_driftOnce_79 rfl ?_
      refine g_iload_n hX dX6_driftOnce_80 rfl ?_
      refine g_callFv (ws' := [(z0, .inr (7, [.ref s0, .ref v0, .ref d0, .ref y0, .ref b0, .ref i0, .ref i1, .ref i2, .ref i3, .int (nI (nx (nx (nx s))))])), (s0, .inr (6, [.int ((upd r (94 + 8 * (rn (nx s) 8) + (rn (nx (nx s)) 8)) (nI (rn (nx (nx (nx s))) 9) - nI 4 + nI 100)) 0), .ref s1, .ref s2, .ref s3, .ref s4, .int ((nI u) + nI 1)])), (s1, .inl (D.1 100, 16, .inl (sE (upd r (94 + 8 * (rn (nx s) 8) + (rn (nx (nx s)) 8)) (nI (rn (nx (nx (nx s))) 9) - nI 4 + nI 100))))), (s2, .inl (D.1 100, 8, .inl (sB (upd r (94 + 8 * (rn (nx s) 8) + (rn (nx (nx s)) 8)) (nI (rn (nx (nx (nx s))) 9) - nI 4 + nI 100))))), (s3, .inl (D.1 100, 5, .inl (sT (upd r (94 + 8 * (rn (nx s) 8) + (rn (nx (nx s)) 8)) (nI (rn (nx (nx (nx s))) 9) - nI 4 + nI 100))))), (s4, .inl (D.1 100, 64, .inl (sG (upd r (94 + 8 * (rn (nx s) 8) + (rn (nx (nx s)) 8)) (nI (rn (nx (nx (nx s))) 9) - nI 4 + nI 100)))))]) hX dX6_driftOnce_81 cw_X6_227 (ct_X5_setGap (x := nI (rn (nx (nx (nx s))) 9) - nI 4 + nI 100) (gG_4 hC9) (by omega) (by omega)) 1 6 [1, 2, 3, 4, 5] rfl rfl rfl rfl (by decide) rfl rfl ⟨by decide, by decide⟩ (Nat.le_of_ble_eq_true rfl) (Nat.le_refl _) (Nat.le_refl _) rfl ?_
      refine g_eq (ws' := [(z0, .inr (7, [.ref s0, .ref v0, .ref d0, .ref y0, .ref b0, .ref i0, .ref i1, .ref i2, .ref i3, .int (nI (nx (nx (nx s))))])), (s0, .inr (6, [.int ((upd r (94 + 8 * (rn (nx s) 8) + (rn (nx (nx s)) 8)) (nI (rn (nx (nx (nx s))) 9) - nI 4 + nI 100)) 0), .ref s1, .ref s2, .ref s3, .ref s4, .int (nI (u + 1))])), (s1, .inl (D.1 100, 16, .inl (sE (upd r (94 + 8 * (rn (nx s) 8) + (rn (nx (nx s)) 8)) (nI (rn (nx (nx (nx s))) 9) - nI 4 + nI 100))))), (s2, .inl (D.1 100, 8, .inl (sB (upd r (94 + 8 * (rn (nx s) 8) + (rn (nx (nx s)) 8)) (nI (rn (nx (nx (nx s))) 9) - nI 4 + nI 100))))), (s3, .inl (D.1 100, 5, .inl (sT (upd r (94 + 8 * (rn (nx s) 8) + (rn (nx (nx s)) 8)) (nI (rn (nx (nx (nx s))) 9) - nI 4 + nI 100))))), (s4, .inl (D.1 100, 64, .inl (sG (upd r (94 + 8 * (rn (nx s) 8) + (rn (nx (nx s)) 8)) (nI (rn (nx (nx (nx s))) 9) - nI 4 + nI 100)))))]) ?_ (by rw [nI_add]) rfl rfl
      subst hQ
      exact g_vretU hX dX6_driftOnce_84 ((upd r (94 + 8 * (rn (nx s) 8) + (rn (nx (nx s)) 8)) (nI (rn (nx (nx (nx s))) 9) - nI 4 + nI 100)), (u + 1), (nx (nx (nx s)))) (⟨rfl, by unfold chC; rw [if_pos h15, if_pos h71], Or.inr rfl⟩) rfl (Nat.le_refl _) (Nat.le_refl _)
  · skip
    refine g_aload_n hX dX6_driftOnce_18 rfl ?_
    refine g_callFi (ws' := [(z0, .inr (7, [.ref s0, .ref v0, .ref d0, .ref y0, .ref b0, .ref i0, .ref i1, .ref i2, .ref i3, .int (nI (nxIt nx 5 (nx s)))])), (s0, .inr (6, [.int (r 0), .ref s1, .ref s2, .ref s3, .ref s4, .int (nI u)])), (s1, .inl (D.1 100, 16, .inl (sE r))), (s2, .inl (D.1 100, 8, .inl (sB r))), (s3, .inl (D.1 100, 5, .inl (sT r))), (s4, .inl (D.1 100, 64, .inl (sG r)))]) hX dX6_driftOnce_19 cw_X6_257 (ct_X6_drawEdge  (by first | with_reducible assumption | assumption) (by first | with_reducible assumption | assumption)) 0 7 [0] rfl rfl rfl rfl (by decide) rfl rfl ⟨by decide, by decide⟩ (Nat.le_of_ble_eq_true rfl) (Nat.le_refl _) (Nat.le_refl _) rfl ?_
    refine g_istore_n (L' := [some (.ref z0), some (.int (nI (rn (nx s) 8))), some (.int (nI (edF nx rn (nx s) 5))), none]) hX dX6_driftOnce_22 (by decide) rfl ?_
    refine g_aload_n hX dX6_driftOnce_23 rfl ?_
    refine g_callFi (ws' := [(z0, .inr (7, [.ref s0, .ref v0, .ref d0, .ref y0, .ref b0, .ref i0, .ref i1, .ref i2, .ref i3, .int (nI (nxIt nx 5 (nxIt nx 5 (nx s))))])), (s0, .inr (6, [.int (r 0), .ref s1, .ref s2, .ref s3, .ref s4, .int (nI u)])), (s1, .inl (D.1 100, 16, .inl (sE r))), (s2, .inl (D.1 100, 8, .inl (sB r))), (s3, .inl (D.1 100, 5, .inl (sT r))), (s4, .inl (D.1 100, 64, .inl (sG r)))]) hX dX6_driftOnce_24 cw_X6_257 (ct_X6_drawEdge  (by first | with_reducible assumption | assumption) (by first | with_reducible assumption | assumption)) 0 7 [0] rfl rfl rfl rfl (by decide) rfl rfl ⟨by decide, by decide⟩ (Nat.le_of_ble_eq_true rfl) (Nat.le_refl _) (Nat.le_refl _) rfl ?_
    refine g_istore_n (L' := [some (.ref z0), some (.int (nI (rn (nx s) 8))), some (.int (nI (edF nx rn (nx s) 5))), some (.int (nI (edF nx rn (nxIt nx 5 (nx s)) 5)))]) hX dX6_driftOnce_27 (by decide) rfl ?_
    refine g_aload_n hX dX6_driftOnce_28 rfl ?_
    refine g_getf hX dX6_driftOnce_29 fk_X6_10 0 rfl rfl ?_
    refine g_iload_n hX dX6_driftOnce_32 rfl ?_
    refine g_iload_n hX dX6_driftOnce_33 rfl ?_
    refine g_iload_n hX dX6_driftOnce_34 rfl ?_
    refine g_aload_n hX dX6_driftOnce_35 rfl ?_
    refine g_bipush hX dX6_driftOnce_36 kn_b_9 ?_
    refine g_callFi (ws' := [(z0, .inr (7, [.ref s0, .ref v0, .ref d0, .ref y0, .ref b0, .ref i0, .ref i1, .ref i2, .ref i3, .int (nI (nx (nxIt nx 5 (nxIt nx 5 (nx s)))))])), (s0, .inr (6, [.int (r 0), .ref s1, .ref s2, .ref s3, .ref s4, .int (nI u)])), (s1, .inl (D.1 100, 16, .inl (sE r))), (s2, .inl (D.1 100, 8, .inl (sB r))), (s3, .inl (D.1 100, 5, .inl (sT r))), (s4, .inl (D.1 100, 64, .inl (sG r)))]) hX dX6_driftOnce_38 cw_X6_253 (ct_X6_draw  (by first | with_reducible assumption | assumption) (by first | with_reducible assumption | assumption) (by omega) (by omega)) 0 7 [0] rfl rfl rfl rfl (by decide) rfl rfl ⟨by decide, by decide⟩ (Nat.le_of_ble_eq_true rfl) (Nat.le_refl _) (Nat.le_refl _) rfl ?_
    refine g_iconst hX dX6_driftOnce_41 kn_i_1 ?_
    refine g_iaddN hX dX6_driftOnce_42 ?_
    refine g_callFv (ws' := [(z0, .inr (7, [.ref s0, .ref v0, .ref d0, .ref y0, .ref b0, .ref i0, .ref i1, .ref i2, .ref i3, .int (nI (nx (nxIt nx 5 (nxIt nx 5 (nx s)))))])), (s0, .inr (6, [.int ((rKnow r (rn (nx s) 8) (dgt (edF nx rn (nx s) 5)) (dgt (edF nx rn (nxIt nx 5 (nx s)) 5)) ((rn (nx (nxIt nx 5 (nxIt nx 5 (nx s)))) 9) + 1)) 0), .ref s1, .ref s2, .ref s3, .ref s4, .int ((nI u) + nI 1)])), (s1, .inl (D.1 100, 16, .inl (sE (rKnow r (rn (nx s) 8) (dgt (edF nx rn (nx s) 5)) (dgt (edF nx rn (nxIt nx 5 (nx s)) 5)) ((rn (nx (nxIt nx 5 (nxIt nx 5 (nx s)))) 9) + 1))))), (s2, .inl (D.1 100, 8, .inl (sB (rKnow r (rn (nx s) 8) (dgt (edF nx rn (nx s) 5)) (dgt (edF nx rn (nxIt nx 5 (nx s)) 5)) ((rn (nx (nxIt nx 5 (nxIt nx 5 (nx s)))) 9) + 1))))), (s3, .inl (D.1 100, 5, .inl (sT (rKnow r (rn (nx s) 8) (dgt (edF nx rn (nx s) 5)) (dgt (edF nx rn (nxIt nx 5 (nx s)) 5)) ((rn (nx (nxIt nx 5 (nxIt nx 5 (nx s)))) 9) + 1))))), (s4, .inl (D.1 100, 64, .inl (sG (rKnow r (rn (nx s) 8) (dgt (edF nx rn (nx s) 5)) (dgt (edF nx rn (nxIt nx 5 (nx s)) 5)) ((rn (nx (nxIt nx 5 (nxIt nx 5 (nx s)))) 9) + 1)))))]) hX dX6_driftOnce_43 cw_X6_216 (ct_X5_learn  (by omega) (by omega) (by omega)) 1 6 [1, 2, 3, 4, 5] rfl rfl rfl rfl (by decide) rfl rfl ⟨by decide, by decide⟩ (Nat.le_of_ble_eq_true rfl) (Nat.le_refl _) (Nat.le_refl _) rfl ?_
    refine g_eq (ws' := [(z0, .inr (7, [.ref s0, .ref v0, .ref d0, .ref y0, .ref b0, .ref i0, .ref i1, .ref i2, .ref i3, .int (nI (nx (nxIt nx 5 (nxIt nx 5 (nx s)))))])), (s0, .inr (6, [.int ((rKnow r (rn (nx s) 8) (dgt (edF nx rn (nx s) 5)) (dgt (edF nx rn (nxIt nx 5 (nx s)) 5)) ((rn (nx (nxIt nx 5 (nxIt nx 5 (nx s)))) 9) + 1)) 0), .ref s1, .ref s2, .ref s3, .ref s4, .int (nI (u + 1))])), (s1, .inl (D.1 100, 16, .inl (sE (rKnow r (rn (nx s) 8) (dgt (edF nx rn (nx s) 5)) (dgt (edF nx rn (nxIt nx 5 (nx s)) 5)) ((rn (nx (nxIt nx 5 (nxIt nx 5 (nx s)))) 9) + 1))))), (s2, .inl (D.1 100, 8, .inl (sB (rKnow r (rn (nx s) 8) (dgt (edF nx rn (nx s) 5)) (dgt (edF nx rn (nxIt nx 5 (nx s)) 5)) ((rn (nx (nxIt nx 5 (nxIt nx 5 (nx s)))) 9) + 1))))), (s3, .inl (D.1 100, 5, .inl (sT (rKnow r (rn (nx s) 8) (dgt (edF nx rn (nx s) 5)) (dgt (edF nx rn (nxIt nx 5 (nx s)) 5)) ((rn (nx (nxIt nx 5 (nxIt nx 5 (nx s)))) 9) + 1))))), (s4, .inl (D.1 100, 64, .inl (sG (rKnow r (rn (nx s) 8) (dgt (edF nx rn (nx s) 5)) (dgt (edF nx rn (nxIt nx 5 (nx s)) 5)) ((rn (nx (nxIt nx 5 (nxIt nx 5 (nx s)))) 9) + 1)))))]) ?_ (by rw [nI_add]) rfl rfl
    subst hQ
    exact g_vretU hX dX6_driftOnce_46 ((rKnow r (rn (nx s) 8) (dgt (edF nx rn (nx s) 5)) (dgt (edF nx rn (nxIt nx 5 (nx s)) 5)) ((rn (nx (nxIt nx 5 (nxIt nx 5 (nx s)))) 9) + 1)), (u + 1), (nx (nxIt nx 5 (nxIt nx 5 (nx s))))) (⟨rfl, by unfold chC; rw [if_neg (by rw [h15]; decide)], Or.inr rfl⟩) rfl (Nat.le_refl _) (Nat.le_refl _)
