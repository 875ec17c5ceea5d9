set_option maxRecDepth 100000 in
set_option maxHeartbeats 4000000 in
theorem ct_X4_gapOfCell {l : Launch} {D : va_G} {v0 v1 s0 s1 s2 s3 s4 l0 l1 l2 l3 g0 g1 g2 g3 : Nat} {r : Nat → Int32} {vn sv : Int32} {i j o : Nat} (hw : okW r) (hg : okG r) (ho : r 2 = nI o) (ho2 : o ≤ 20) (hD : okD r) (hcap : 0 ≤ r 3) (hi : i < 2147483648) (hj : j < 2147483648) (hp : 1 ≤ ptN r i j o) : Cf l D yX4_gapOfCell cX4_gapOfCell 2 (some .int) 4 112 [.ref v0] [(v0, .inr (5, [.ref s0, .ref l0, .ref g0, .int sv, .int (nI i), .int (nI j), .int (nI (prN r i j)), .int (nI (jdN r i j)), .int (nI (kpN r i j o 41)), .int (kSm r i j o 41), .int (kLs r i j o 41), .ref v1])), (s0, .inr (6, [.int (r 0), .ref s1, .ref s2, .ref s3, .ref s4, .int vn])), (s1, .inl (D.1 100, 16, .inl (sE r))), (s3, .inl (D.1 100, 5, .inl (sT r))), (l0, .inr (2, [.ref l1, .int (nI (clM r 0)), .ref l2, .ref l3])), (l1, .inl (D.1 100, 8, .inl (clA r 0))), (g0, .inr (2, [.ref g1, .int (nI (clM r 1)), .ref g2, .ref g3])), (g1, .inl (D.1 100, 8, .inl (clA r 1)))] (some (.int (cellGap r (cq r) (nI i) (nI j) - nI 100))) [(v0, .inr (5, [.ref s0, .ref l0, .ref g0, .int sv, .int (nI i), .int (nI j), .int (nI (prN r i j)), .int (nI (jdN r i j)), .int (nI (kpN r i j o 41)), .int (kSm r i j o 41), .int (kLs r i j o 41), .ref v1])), (s0, .inr (6, [.int (r 0), .ref s1, .ref s2, .ref s3, .ref s4, .int vn])), (s1, .inl (D.1 100, 16, .inl (sE r))), (s3, .inl (D.1 100, 5, .inl (sT r))), (l0, .inr (2, [.ref l1, .int (nI (clM r 0)), .ref l2, .ref l3])), (l1, .inl (D.1 100, 8, .inl (clA r 0))), (g0, .inr (2, [.ref g1, .int (nI (clM r 1)), .ref g2, .ref g3])), (g1, .inl (D.1 100, 8, .inl (clA r 1)))] := by
  refine Ct.ofG (by decide) (Nat.le_of_ble_eq_true rfl) ?_
  intro X hX
  have hX : CX X l D RX4 "gapOfCell" cX4_gapOfCell 2 (some .int) 4 112 0 0 := hX
  show G X (QF X (some (.int (cellGap r (cq r) (nI i) (nI j) - nI 100))) [(v0, .inr (5, [.ref s0, .ref l0, .ref g0, .int sv, .int (nI i), .int (nI j), .int (nI (prN r i j)), .int (nI (jdN r i j)), .int (nI (kpN r i j o 41)), .int (kSm r i j o 41), .int (kLs r i j o 41), .ref v1])), (s0, .inr (6, [.int (r 0), .ref s1, .ref s2, .ref s3, .ref s4, .int vn])), (s1, .inl (D.1 100, 16, .inl (sE r))), (s3, .inl (D.1 100, 5, .inl (sT r))), (l0, .inr (2, [.ref l1, .int (nI (clM r 0)), .ref l2, .ref l3])), (l1, .inl (D.1 100, 8, .inl (clA r 0))), (g0, .inr (2, [.ref g1, .int (nI (clM r 1)), .ref g2, .ref g3])), (g1, .inl (D.1 100, 8, .inl (clA r 1)))]) [(v0, .inr (5, [.ref s0, .ref l0, .ref g0, .int sv, .int (nI i), .int (nI j), .int (nI (prN r i j)), .int (nI (jdN r i j)), .int (nI (kpN r i j o 41)), .int (kSm r i j o 41), .int (kLs r i j o 41), .ref v1])), (s0, .inr (6, [.int (r 0), .ref s1, .ref s2, .ref s3, .ref s4, .int vn])), (s1, .inl (D.1 100, 16, .inl (sE r))), (s3, .inl (D.1 100, 5, .inl (sT r))), (l0, .inr (2, [.ref l1, .int (nI (clM r 0)), .ref l2, .ref l3])), (l1, .inl (D.1 100, 8, .inl (clA r 0))), (g0, .inr (2, [.ref g1, .int (nI (clM r 1)), .ref g2, .ref g3])), (g1, .inl (D.1 100, 8, .inl (clA r 1)))] 0 0 0 [some (.ref v0), none] []
  generalize hQ : QF X (some (.int (cellGap r (cq r) (nI i) (nI j) - nI 100))) [(v0, .inr (5, [.ref s0, .ref l0, .ref g0, .int sv, .int (nI i), .int (nI j), .int (nI (prN r i j)), .int (nI (jdN r i j)), .int (nI (kpN r i j o 41)), .int (kSm r i j o 41), .int (kLs r i j o 41), .ref v1])), (s0, .inr (6, [.int (r 0), .ref s1, .ref s2, .ref s3, .ref s4, .int vn])), (s1, .inl (D.1 100, 16, .inl (sE r))), (s3, .inl (D.1 100, 5, .inl (sT r))), (l0, .inr (2, [.ref l1, .int (nI (clM r 0)), .ref l2, .ref l3])), (l1, .inl (D.1 100, 8, .inl (clA r 0))), (g0, .inr (2, [.ref g1, .int (nI (clM r 1)), .ref g2, .ref g3])), (g1, .inl (D.1 100, 8, .inl (clA r 1)))] = Q
  have hpt := (below_c hg (i := i) (j := j) ho ho2).2
  refine g_aload_n hX dX4_gapOfCell_0 rfl ?_
  refine g_callRi hX dX4_gapOfCell_1 cw_X4_95 ct_X4_meanParts 0 5 [0] rfl rfl rfl rfl (by decide) rfl ⟨by decide, by decide⟩ (Nat.le_of_ble_eq_true rfl) (Nat.le_refl _) (Nat.le_refl _) ?_
  refine g_istore_n (L' := [some (.ref v0), some (.int (nI (ptN r i j o)))]) hX dX4_gapOfCell_4 (by decide) rfl ?_
  refine g_iload_n hX dX4_gapOfCell_5 rfl ?_
  refine g_ifN_le (tgt := 26) hX dX4_gapOfCell_6 (by decide) (by omega) (fun h => absurd h (by omega)) (fun h6 => ?_)
  refine g_iconst hX dX4_gapOfCell_9 kn_i_2 ?_
  refine g_aload_n hX dX4_gapOfCell_10 rfl ?_
  refine g_callRi hX dX4_gapOfCell_11 cw_X4_99 (ct_X4_meanSum  (by first | with_reducible assumption | assumption) (by omega) (by omega) (by omega)) 0 5 [0, 1, 2, 3, 4, 5, 6, 7] rfl rfl rfl rfl (by decide) rfl ⟨by decide, by decide⟩ (Nat.le_of_ble_eq_true rfl) (Nat.le_refl _) (Nat.le_refl _) ?_
  refine g_imul hX dX4_gapOfCell_14 ?_
  refine g_iload_n hX dX4_gapOfCell_15 rfl ?_
  refine g_iadd hX dX4_gapOfCell_16 ?_
  refine g_iconst hX dX4_gapOfCell_17 kn_i_2 ?_
  refine g_iload_n hX dX4_gapOfCell_18 rfl ?_
  refine g_imulN hX dX4_gapOfCell_19 ?_
  refine g_callSRi hX dX4_gapOfCell_20 cw_X4_102 (ct_J9_floorDiv_7cf53  (by omega) (by omega)) [] rfl rfl (by decide) rfl ⟨by decide, by decide⟩ (Nat.le_of_ble_eq_true rfl) (Nat.le_refl _) (Nat.le_refl _) ?_
  refine g_goto (tgt := 27) hX dX4_gapOfCell_23 (by decide) ?_
  subst hQ
  exact g_iret hX dX4_gapOfCell_27 (iR (gap_fd hw hg ho ho2 hp)) (rfl) rfl rfl
set_option maxRecDepth 100000 in
set_option maxHeartbeats 4000000 in
theorem ct_X4_meanAbove {l : Launch} {D : va_G} {v0 v1 s0 s1 s2 s3 s4 l0 l1 l2 l3 g0 g1 g2 g3 : Nat} {r : Nat → Int32} {vn sv : Int32} {i j o : Nat} (hw : okW r) (hg : okG r) (ho : r 2 = nI o) (ho2 : o ≤ 20) (hD : okD r) (hcap : 0 ≤ r 3) (hi : i < 2147483648) (hj : j < 2147483648) (hp : 1 ≤ ptN r i j o) : Cf l D yX4_meanAbove cX4_meanAbove 3 (some .int) 4 112 [.ref v0] [(v0, .inr (5, [.ref s0, .ref l0, .ref g0, .int sv, .int (nI i), .int (nI j), .int (nI (prN r i j)), .int (nI (jdN r i j)), .int (nI (kpN r i j o 41)), .int (kSm r i j o 41), .int (kLs r i j o 41), .ref v1])), (s0, .inr (6, [.int (r 0), .ref s1, .ref s2, .ref s3, .ref s4, .int vn])), (s1, .inl (D.1 100, 16, .inl (sE r))), (s3, .inl (D.1 100, 5, .inl (sT r))), (l0, .inr (2, [.ref l1, .int (nI (clM r 0)), .ref l2, .ref l3])), (l1, .inl (D.1 100, 8, .inl (clA r 0))), (g0, .inr (2, [.ref g1, .int (nI (clM r 1)), .ref g2, .ref g3])), (g1, .inl (D.1 100, 8, .inl (clA r 1)))] (some (.int (nI (abo r (cq r) (nI i) (nI j) / Nat.gcd (abo r (cq r) (nI i) (nI j)) (ptN r i j o))))) [(v0, .inr (5, [.ref s0, .ref l0, .ref g0, .int sv, .int (nI i), .int (nI j), .int (nI (prN r i j)), .int (nI (jdN r i j)), .int (nI (kpN r i j o 41)), .int (kSm r i j o 41), .int (kLs r i j o 41), .ref v1])), (s0, .inr (6, [.int (r 0), .ref s1, .ref s2, .ref s3, .ref s4, .int vn])), (s1, .inl (D.1 100, 16, .inl (sE r))), (s3, .inl (D.1 100, 5, .inl (sT r))), (l0, .inr (2, [.ref l1, .int (nI (clM r 0)), .ref l2, .ref l3])), (l1, .inl (D.1 100, 8, .inl (clA r 0))), (g0, .inr (2, [.ref g1, .int (nI (clM r 1)), .ref g2, .ref g3])), (g1, .inl (D.1 100, 8, .inl (clA r 1)))] := by
  refine Ct.ofG (by decide) (Nat.le_of_ble_eq_true rfl) ?_
  intro X hX
  have hX : CX X l D RX4 "meanAbove" cX4_meanAbove 3 (some .int) 4 112 0 0 := hX
  show G X (QF X (some (.int (nI (abo r (cq r) (nI i) (nI j) / Nat.gcd (abo r (cq r) (nI i) (nI j)) (ptN r i j o))))) [(v0, .inr (5, [.ref s0, .ref l0, .ref g0, .int sv, .int (nI i), .int (nI j), .int (nI (prN r i j)), .int (nI (jdN r i j)), .int (nI (kpN r i j o 41)), .int (kSm r i j o 41), .int (kLs r i j o 41), .ref v1])), (s0, .inr (6, [.int (r 0), .ref s1, .ref s2, .ref s3, .ref s4, .int vn])), (s1, .inl (D.1 100, 16, .inl (sE r))), (s3, .inl (D.1 100, 5, .inl (sT r))), (l0, .inr (2, [.ref l1, .int (nI (clM r 0)), .ref l2, .ref l3])), (l1, .inl (D.1 100, 8, .inl (clA r 0))), (g0, .inr (2, [.ref g1, .int (nI (clM r 1)), .ref g2, .ref g3])), (g1, .inl (D.1 100, 8, .inl (clA r 1)))]) [(v0, .inr (5, [.ref s0, .ref l0, .ref g0, .int sv, .int (nI i), .int (nI j), .int (nI (prN r i j)), .int (nI (jdN r i j)), .int (nI (kpN r i j o 41)), .int (kSm r i j o 41), .int (kLs r i j o 41), .ref v1])), (s0, .inr (6, [.int (r 0), .ref s1, .ref s2, .ref s3, .ref s4, .int vn])), (s1, .inl (D.1 100, 16, .inl (sE r))), (s3, .inl (D.1 100, 5, .inl (sT r))), (l0, .inr (2, [.ref l1, .int (nI (clM r 0)), .ref l2, .ref l3])), (l1, .inl (D.1 100, 8, .inl (clA r 0))), (g0, .inr (2, [.ref g1, .int (nI (clM r 1)), .ref g2, .ref g3])), (g1, .inl (D.1 100, 8, .inl (clA r 1)))] 0 0 0 [some (.ref v0), none, none] []
  generalize hQ : QF X (some (.int (nI (abo r (cq r) (nI i) (nI j) / Nat.gcd (abo r (cq r) (nI i) (nI j)) (ptN r i j o))))) [(v0, .inr (5, [.ref s0, .ref l0, .ref g0, .int sv, .int (nI i), .int (nI j), .int (nI (prN r i j)), .int (nI (jdN r i j)), .int (nI (kpN r i j o 41)), .int (kSm r i j o 41), .int (kLs r i j o 41), .ref v1])), (s0, .inr (6, [.int (r 0), .ref s1, .ref s2, .ref s3, .ref s4, .int vn])), (s1, .inl (D.1 100, 16, .inl (sE r))), (s3, .inl (D.1 100, 5, .inl (sT r))), (l0, .inr (2, [.ref l1, .int (nI (clM r 0)), .ref l2, .ref l3])), (l1, .inl (D.1 100, 8, .inl (clA r 0))), (g0, .inr (2, [.ref g1, .int (nI (clM r 1)), .ref g2, .ref g3])), (g1, .inl (D.1 100, 8, .inl (clA r 1)))] = Q
  have hpt := (below_c hg (i := i) (j := j) ho ho2).2
  refine g_aload_n hX dX4_meanAbove_0 rfl ?_
  refine g_callRi hX dX4_meanAbove_1 cw_X4_95 ct_X4_meanParts 0 5 [0] rfl rfl rfl rfl (by decide) rfl ⟨by decide, by decide⟩ (Nat.le_of_ble_eq_true rfl) (Nat.le_refl _) (Nat.le_refl _) ?_
  refine g_istore_n (L' := [some (.ref v0), some (.int (nI (ptN r i j o))), none]) hX dX4_meanAbove_4 (by decide) rfl ?_
  refine g_aload_n hX dX4_meanAbove_5 rfl ?_
  refine g_callRi hX dX4_meanAbove_6 cw_X4_99 (ct_X4_meanSum  (by first | with_reducible assumption | assumption) (by omega) (by omega) (by omega)) 0 5 [0, 1, 2, 3, 4, 5, 6, 7] rfl rfl rfl rfl (by decide) rfl ⟨by decide, by decide⟩ (Nat.le_of_ble_eq_true rfl) (Nat.le_refl _) (Nat.le_refl _) ?_
  refine g_bipush hX dX4_meanAbove_9 kn_b_100 ?_
  refine g_iload_n hX dX4_meanAbove_11 rfl ?_
  refine g_imulN hX dX4_meanAbove_12 ?_
  refine g_iadd hX dX4_meanAbove_13 ?_
  refine g_top (v' := nI (abo r (cq r) (nI i) (nI j))) (ab_n hw hg ho ho2) ?_
  have hab := (abo_n hw (cq r) (nI i) (nI j)).2
  refine g_istore_n (L' := [some (.ref v0), some (.int (nI (ptN r i j o))), some (.int (nI (abo r (cq r) (nI i) (nI j))))]) hX dX4_meanAbove_14 (by decide) rfl ?_
  refine g_iload_n hX dX4_meanAbove_15 rfl ?_
  refine g_iload_n hX dX4_meanAbove_16 rfl ?_
  refine g_iload_n hX dX4_meanAbove_17 rfl ?_
  refine g_callSRi hX dX4_meanAbove_18 cw_X4_105 (ct_X4_commonDivisor  (by omega) (by omega) (by omega)) [] rfl rfl (by decide) rfl ⟨by decide, by decide⟩ (Nat.le_of_ble_eq_true rfl) (Nat.le_refl _) (Nat.le_refl _) ?_
  have hg1 := Nat.gcd_pos_of_pos_right (abo r (cq r) (nI i) (nI j)) (show 0 < ptN r i j o by omega)
  have hg2 := Nat.le_of_dvd (by omega) (Nat.gcd_dvd_right (abo r (cq r) (nI i) (nI j)) (ptN r i j o))
  refine g_idivN hX dX4_meanAbove_21 (by omega) (by omega) (by omega) ?_
  subst hQ
  exact g_iret hX dX4_meanAbove_22 (rfl) (rfl) rfl rfl
set_option maxRecDepth 100000 in
set_option maxHeartbeats 4000000 in
theorem ct_X4_meanBelow {l : Launch} {D : va_G} {v0 v1 s0 s1 s2 s3 s4 l0 l1 l2 l3 g0 g1 g2 g3 : Nat} {r : Nat → Int32} {vn sv : Int32} {i j o : Nat} (hw : okW r) (hg : okG r) (ho : r 2 = nI o) (ho2 : o ≤ 20) (hD : okD r) (hcap : 0 ≤ r 3) (hi : i < 2147483648) (hj : j < 2147483648) (hp : 1 ≤ ptN r i j o) : Cf l D yX4_meanBelow cX4_meanBelow 2 (some .int) 4 112 [.ref v0] [(v0, .inr (5, [.ref s0, .ref l0, .ref g0, .int sv, .int (nI i), .int (nI j), .int (nI (prN r i j)), .int (nI (jdN r i j)), .int (nI (kpN r i j o 41)), .int (kSm r i j o 41), .int (kLs r i j o 41), .ref v1])), (s0, .inr (6, [.int (r 0), .ref s1, .ref s2, .ref s3, .ref s4, .int vn])), (s1, .inl (D.1 100, 16, .inl (sE r))), (s3, .inl (D.1 100, 5, .inl (sT r))), (l0, .inr (2, [.ref l1, .int (nI (clM r 0)), .ref l2, .ref l3])), (l1, .inl (D.1 100, 8, .inl (clA r 0))), (g0, .inr (2, [.ref g1, .int (nI (clM r 1)), .ref g2, .ref g3])), (g1, .inl (D.1 100, 8, .inl (clA r 1)))] (some (.int (nI (ptN r i j o / Nat.gcd (abo r (cq r) (nI i) (nI j)) (ptN r i j o))))) [(v0, .inr (5, [.ref s0, .ref l0, .ref g0, .int sv, .int (nI i), .int (nI j), .int (nI (prN r i j)), .int (nI (jdN r i j)), .int (nI (kpN r i j o 41)), .int (kSm r i j o 41), .int (kLs r i j o 41), .ref v1])), (s0, .inr (6, [.int (r 0), .ref s1, .ref s2, .ref s3, .ref s4, .int vn])), (s1, .inl (D.1 100, 16, .inl (sE r))), (s3, .inl (D.1 100, 5, .inl (sT r))), (l0, .inr (2, [.ref l1, .int (nI (clM r 0)), .ref l2, .ref l3])), (l1, .inl (D.1 100, 8, .inl (clA r 0))), (g0, .inr (2, [.ref g1, .int (nI (clM r 1)), .ref g2, .ref g3])), (g1, .inl (D.1 100, 8, .inl (clA r 1)))] := by
  refine Ct.ofG (by decide) (Nat.le_of_ble_eq_true rfl) ?_
  intro X hX
  have hX : CX X l D RX4 "meanBelow" cX4_meanBelow 2 (some .int) 4 112 0 0 := hX
  show G X (QF X (some (.int (nI (ptN r i j o / Nat.gcd (abo r (cq r) (nI i) (nI j)) (ptN r i j o))))) [(v0, .inr (5, [.ref s0, .ref l0, .ref g0, .int sv, .int (nI i), .int (nI j), .int (nI (prN r i j)), .int (nI (jdN r i j)), .int (nI (kpN r i j o 41)), .int (kSm r i j o 41), .int (kLs r i j o 41), .ref v1])), (s0, .inr (6, [.int (r 0), .ref s1, .ref s2, .ref s3, .ref s4, .int vn])), (s1, .inl (D.1 100, 16, .inl (sE r))), (s3, .inl (D.1 100, 5, .inl (sT r))), (l0, .inr (2, [.ref l1, .int (nI (clM r 0)), .ref l2, .ref l3])), (l1, .inl (D.1 100, 8, .inl (clA r 0))), (g0, .inr (2, [.ref g1, .int (nI (clM r 1)), .ref g2, .ref g3])), (g1, .inl (D.1 100, 8, .inl (clA r 1)))]) [(v0, .inr (5, [.ref s0, .ref l0, .ref g0, .int sv, .int (nI i), .int (nI j), .int (nI (prN r i j)), .int (nI (jdN r i j)), .int (nI (kpN r i j o 41)), .int (kSm r i j o 41), .int (kLs r i j o 41), .ref v1])), (s0, .inr (6, [.int (r 0), .ref s1, .ref s2, .ref s3, .ref s4, .int vn])), (s1, .inl (D.1 100, 16, .inl (sE r))), (s3, .inl (D.1 100, 5, .inl (sT r))), (l0, .inr (2, [.ref l1, .int (nI (clM r 0)), .ref l2, .ref l3])), (l1, .inl (D.1 100, 8, .inl (clA r 0))), (g0, .inr (2, [.ref g1, .int (nI (clM r 1)), .ref g2, .ref g3])), (g1, .inl (D.1 100, 8, .inl (clA r 1)))] 0 0 0 [some (.ref v0), none] []
  generalize hQ : QF X (some (.int (nI (ptN r i j o / Nat.gcd (abo r (cq r) (nI i) (nI j)) (ptN r i j o))))) [(v0, .inr (5, [.ref s0, .ref l0, .ref g0, .int sv, .int (nI i), .int (nI j), .int (nI (prN r i j)), .int (nI (jdN r i j)), .int (nI (kpN r i j o 41)), .int (kSm r i j o 41), .int (kLs r i j o 41), .ref v1])), (s0, .inr (6, [.int (r 0), .ref s1, .ref s2, .ref s3, .ref s4, .int vn])), (s1, .inl (D.1 100, 16, .inl (sE r))), (s3, .inl (D.1 100, 5, .inl (sT r))), (l0, .inr (2, [.ref l1, .int (nI (clM r 0)), .ref l2, .ref l3])), (l1, .inl (D.1 100, 8, .inl (clA r 0))), (g0, .inr (2, [.ref g1, .int (nI (clM r 1)), .ref g2, .ref g3])), (g1, .inl (D.1 100, 8, .inl (clA r 1)))] = Q
  have hpt := (below_c hg (i := i) (j := j) ho ho2).2
  refine g_aload_n hX dX4_meanBelow_0 rfl ?_
  refine g_callRi hX dX4_meanBelow_1 cw_X4_95 ct_X4_meanParts 0 5 [0] rfl rfl rfl rfl (by decide) rfl ⟨by decide, by decide⟩ (Nat.le_of_ble_eq_true rfl) (Nat.le_refl _) (Nat.le_refl _) ?_
  refine g_istore_n (L' := [some (.ref v0), some (.int (nI (ptN r i j o)))]) hX dX4_meanBelow_4 (by decide) rfl ?_
  refine g_iload_n hX dX4_meanBelow_5 rfl ?_
  refine g_aload_n hX dX4_meanBelow_6 rfl ?_
  refine g_callRi hX dX4_meanBelow_7 cw_X4_99 (ct_X4_meanSum  (by first | with_reducible assumption | assumption) (by omega) (by omega) (by omega)) 0 5 [0, 1, 2, 3, 4, 5, 6, 7] rfl rfl rfl rfl (by decide) rfl ⟨by decide, by decide⟩ (Nat.le_of_ble_eq_true rfl) (Nat.le_refl _) (Nat.le_refl _) ?_
  refine g_bipush hX dX4_meanBelow_10 kn_b_100 ?_
  refine g_iload_n hX dX4_meanBelow_12 rfl ?_
  refine g_imulN hX dX4_meanBelow_13 ?_
  refine g_iadd hX dX4_meanBelow_14 ?_
  refine g_top (v' := nI (abo r (cq r) (nI i) (nI j))) (ab_n hw hg ho ho2) ?_
  have hab := (abo_n hw (cq r) (nI i) (nI j)).2
  refine g_iload_n hX dX4_meanBelow_15 rfl ?_
  refine g_callSRi hX dX4_meanBelow_16 cw_X4_105 (ct_X4_commonDivisor  (by omega) (by omega) (by omega)) [] rfl rfl (by decide) rfl ⟨by decide, by decide⟩ (Nat.le_of_ble_eq_true rfl) (Nat.le_refl _) (Nat.le_refl _) ?_
  have hg1 := Nat.gcd_pos_of_pos_right (abo r (cq r) (nI i) (nI j)) (show 0 < ptN r i j o by omega)
  have hg2 := Nat.le_of_dvd (by omega) (Nat.gcd_dvd_right (abo r (cq r) (nI i) (nI j)) (ptN r i j o))
  refine g_idivN hX dX4_meanBelow_19 (by omega) (by omega) (by omega) ?_
  subst hQ
  exact g_iret hX dX4_meanBelow_20 (rfl) (rfl) rfl rfl
