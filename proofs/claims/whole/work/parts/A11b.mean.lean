theorem clA_n {r : Nat → Int32} {side c : Nat} (hc : c < 8) (hk : kn (r 0) c = true) : clA r side c = nI (pat (clR r side) c) := by
  unfold clA clI
  rw [if_pos hc]
  exact if_pos hk
theorem clR_lt8 {r : Nat → Int32} {side c : Nat} (hc : c < 8) (hk : kn (r 0) c = true) : pat (clR r side) c < 8 := Nat.lt_of_lt_of_le (clR_lt r side hc hk) (clM_le r side)
theorem okW.cd {r : Nat → Int32} (hw : okW r) {c d : Nat} (hc : c < 8) (hd : d < 8) (h : (!decide (r (94 + 8 * c + d) ≤ 0)) = true) : kn (r 0) c = true ∧ kn (r 0) d = true := by
  have := hw.both (8 * c + d) (by omega) (by rw [← Nat.add_assoc]; simpa using h)
  rw [show (8 * c + d) / 8 = c by omega, show (8 * c + d) % 8 = d by omega] at this
  exact this
set_option maxRecDepth 100000 in
set_option maxHeartbeats 4000000 in
theorem ct_X4_meanParts {l : Launch} {D : va_G} {v0 v1 s0 l0 g0 : Nat} {r : Nat → Int32} {sv : Int32} {i j o : Nat}  : Cf l D yX4_meanParts cX4_meanParts 1 (some .int) 0 0 [.ref v0] [(v0, .inr (5, [.ref s0, .ref l0, .ref g0, .int sv, .int (nI i), .int (nI j), .int (nI (prN r i j)), .int (nI (jdN r i j)), .int (nI (kpN r i j o 41)), .int (kSm r i j o 41), .int (kLs r i j o 41), .ref v1]))] (some (.int (nI (ptN r i j o)))) [(v0, .inr (5, [.ref s0, .ref l0, .ref g0, .int sv, .int (nI i), .int (nI j), .int (nI (prN r i j)), .int (nI (jdN r i j)), .int (nI (kpN r i j o 41)), .int (kSm r i j o 41), .int (kLs r i j o 41), .ref v1]))] := by
  refine Ct.ofG (by decide) (Nat.le_of_ble_eq_true rfl) ?_
  intro X hX
  have hX : CX X l D RX4 "meanParts" cX4_meanParts 1 (some .int) 0 0 0 0 := hX
  show G X (QF X (some (.int (nI (ptN r i j o)))) [(v0, .inr (5, [.ref s0, .ref l0, .ref g0, .int sv, .int (nI i), .int (nI j), .int (nI (prN r i j)), .int (nI (jdN r i j)), .int (nI (kpN r i j o 41)), .int (kSm r i j o 41), .int (kLs r i j o 41), .ref v1]))]) [(v0, .inr (5, [.ref s0, .ref l0, .ref g0, .int sv, .int (nI i), .int (nI j), .int (nI (prN r i j)), .int (nI (jdN r i j)), .int (nI (kpN r i j o 41)), .int (kSm r i j o 41), .int (kLs r i j o 41), .ref v1]))] 0 0 0 [some (.ref v0)] []
  generalize hQ : QF X (some (.int (nI (ptN r i j o)))) [(v0, .inr (5, [.ref s0, .ref l0, .ref g0, .int sv, .int (nI i), .int (nI j), .int (nI (prN r i j)), .int (nI (jdN r i j)), .int (nI (kpN r i j o 41)), .int (kSm r i j o 41), .int (kLs r i j o 41), .ref v1]))] = Q
  have hb : jdN r i j ≤ 64 := cntB_le _ _
  refine g_aload_n hX dX4_meanParts_0 rfl ?_
  refine g_getf hX dX4_meanParts_1 fk_X4_34 0 rfl rfl ?_
  refine g_ifN_le (tgt := 14) hX dX4_meanParts_4 (by decide) (by omega) (fun h4 => ?_) (fun h4 => ?_)
  · skip
    refine g_aload_n hX dX4_meanParts_14 rfl ?_
    refine g_getf hX dX4_meanParts_15 fk_X4_31 0 rfl rfl ?_
    subst hQ
    exact g_iret hX dX4_meanParts_18 (iR (congrArg nI (if_pos h4))) (rfl) rfl rfl
  · skip
    refine g_aload_n hX dX4_meanParts_7 rfl ?_
    refine g_getf hX dX4_meanParts_8 fk_X4_37 0 rfl rfl ?_
    refine g_goto (tgt := 18) hX dX4_meanParts_11 (by decide) ?_
    subst hQ
    exact g_iret hX dX4_meanParts_18 (iR (congrArg nI (if_neg h4))) (rfl) rfl rfl
set_option maxRecDepth 100000 in
set_option maxHeartbeats 4000000 in
theorem ct_X4_meanSum {l : Launch} {D : va_G} {v0 v1 s0 s1 s2 s3 s4 l0 l1 l2 l3 g0 g1 g2 g3 : Nat} {r : Nat → Int32} {vn sv : Int32} {i j o : Nat} (hD : okD r) (hcap : 0 ≤ r 3) (hi : i < 2147483648) (hj : j < 2147483648) : Cf l D yX4_meanSum cX4_meanSum 4 (some .int) 3 89 [.ref v0] [(v0, .inr (5, [.ref s0, .ref l0, .ref g0, .int sv, .int (nI i), .int (nI j), .int (nI (prN r i j)), .int (nI (jdN r i j)), .int (nI (kpN r i j o 41)), .int (kSm r i j o 41), .int (kLs r i j o 41), .ref v1])), (s0, .inr (6, [.int (r 0), .ref s1, .ref s2, .ref s3, .ref s4, .int vn])), (s1, .inl (D.1 100, 16, .inl (sE r))), (s3, .inl (D.1 100, 5, .inl (sT r))), (l0, .inr (2, [.ref l1, .int (nI (clM r 0)), .ref l2, .ref l3])), (l1, .inl (D.1 100, 8, .inl (clA r 0))), (g0, .inr (2, [.ref g1, .int (nI (clM r 1)), .ref g2, .ref g3])), (g1, .inl (D.1 100, 8, .inl (clA r 1)))] (some (.int (smI r i j o))) [(v0, .inr (5, [.ref s0, .ref l0, .ref g0, .int sv, .int (nI i), .int (nI j), .int (nI (prN r i j)), .int (nI (jdN r i j)), .int (nI (kpN r i j o 41)), .int (kSm r i j o 41), .int (kLs r i j o 41), .ref v1])), (s0, .inr (6, [.int (r 0), .ref s1, .ref s2, .ref s3, .ref s4, .int vn])), (s1, .inl (D.1 100, 16, .inl (sE r))), (s3, .inl (D.1 100, 5, .inl (sT r))), (l0, .inr (2, [.ref l1, .int (nI (clM r 0)), .ref l2, .ref l3])), (l1, .inl (D.1 100, 8, .inl (clA r 0))), (g0, .inr (2, [.ref g1, .int (nI (clM r 1)), .ref g2, .ref g3])), (g1, .inl (D.1 100, 8, .inl (clA r 1)))] := by
  refine Ct.ofG (by decide) (Nat.le_of_ble_eq_true rfl) ?_
  intro X hX
  have hX : CX X l D RX4 "meanSum" cX4_meanSum 4 (some .int) 3 89 0 0 := hX
  show G X (QF X (some (.int (smI r i j o))) [(v0, .inr (5, [.ref s0, .ref l0, .ref g0, .int sv, .int (nI i), .int (nI j), .int (nI (prN r i j)), .int (nI (jdN r i j)), .int (nI (kpN r i j o 41)), .int (kSm r i j o 41), .int (kLs r i j o 41), .ref v1])), (s0, .inr (6, [.int (r 0), .ref s1, .ref s2, .ref s3, .ref s4, .int vn])), (s1, .inl (D.1 100, 16, .inl (sE r))), (s3, .inl (D.1 100, 5, .inl (sT r))), (l0, .inr (2, [.ref l1, .int (nI (clM r 0)), .ref l2, .ref l3])), (l1, .inl (D.1 100, 8, .inl (clA r 0))), (g0, .inr (2, [.ref g1, .int (nI (clM r 1)), .ref g2, .ref g3])), (g1, .inl (D.1 100, 8, .inl (clA r 1)))]) [(v0, .inr (5, [.ref s0, .ref l0, .ref g0, .int sv, .int (nI i), .int (nI j), .int (nI (prN r i j)), .int (nI (jdN r i j)), .int (nI (kpN r i j o 41)), .int (kSm r i j o 41), .int (kLs r i j o 41), .ref v1])), (s0, .inr (6, [.int (r 0), .ref s1, .ref s2, .ref s3, .ref s4, .int vn])), (s1, .inl (D.1 100, 16, .inl (sE r))), (s3, .inl (D.1 100, 5, .inl (sT r))), (l0, .inr (2, [.ref l1, .int (nI (clM r 0)), .ref l2, .ref l3])), (l1, .inl (D.1 100, 8, .inl (clA r 0))), (g0, .inr (2, [.ref g1, .int (nI (clM r 1)), .ref g2, .ref g3])), (g1, .inl (D.1 100, 8, .inl (clA r 1)))] 0 0 0 [some (.ref v0), none, none, none] []
  generalize hQ : QF X (some (.int (smI r i j o))) [(v0, .inr (5, [.ref s0, .ref l0, .ref g0, .int sv, .int (nI i), .int (nI j), .int (nI (prN r i j)), .int (nI (jdN r i j)), .int (nI (kpN r i j o 41)), .int (kSm r i j o 41), .int (kLs r i j o 41), .ref v1])), (s0, .inr (6, [.int (r 0), .ref s1, .ref s2, .ref s3, .ref s4, .int vn])), (s1, .inl (D.1 100, 16, .inl (sE r))), (s3, .inl (D.1 100, 5, .inl (sT r))), (l0, .inr (2, [.ref l1, .int (nI (clM r 0)), .ref l2, .ref l3])), (l1, .inl (D.1 100, 8, .inl (clA r 0))), (g0, .inr (2, [.ref g1, .int (nI (clM r 1)), .ref g2, .ref g3])), (g1, .inl (D.1 100, 8, .inl (clA r 1)))] = Q
  have hb : jdN r i j ≤ 64 := cntB_le _ _
  refine g_aload_n hX dX4_meanSum_0 rfl ?_
  refine g_getf hX dX4_meanSum_1 fk_X4_34 0 rfl rfl ?_
  refine g_ifN_le (tgt := 12) hX dX4_meanSum_4 (by decide) (by omega) (fun h4 => ?_) (fun h4 => ?_)
  · skip
    refine g_iconst hX dX4_meanSum_12 kn_i_0 ?_
    refine g_istore_n (L' := [some (.ref v0), some (.int (nI 0)), none, none]) hX dX4_meanSum_13 (by decide) rfl ?_
    refine g_iconst hX dX4_meanSum_14 kn_i_0 ?_
    refine g_istore_n (L' := [some (.ref v0), some (.int (nI 0)), some (.int (nI 0)), none]) hX dX4_meanSum_15 (by decide) rfl ?_
    have loop16 : ∀ c : Nat, c ≤ 8 → G X Q [(v0, .inr (5, [.ref s0, .ref l0, .ref g0, .int sv, .int (nI i), .int (nI j), .int (nI (prN r i j)), .int (nI (jdN r i j)), .int (nI (kpN r i j o 41)), .int (kSm r i j o 41), .int (kLs r i j o 41), .ref v1])), (s0, .inr (6, [.int (r 0), .ref s1, .ref s2, .ref s3, .ref s4, .int vn])), (s1, .inl (D.1 100, 16, .inl (sE r))), (s3, .inl (D.1 100, 5, .inl (sT r))), (l0, .inr (2, [.ref l1, .int (nI (clM r 0)), .ref l2, .ref l3])), (l1, .inl (D.1 100, 8, .inl (clA r 0))), (g0, .inr (2, [.ref g1, .int (nI (clM r 1)), .ref g2, .ref g3])), (g1, .inl (D.1 100, 8, .inl (clA r 1)))] 0 0 16 [some (.ref v0), some (.int (siS r i j (8 * c))), some (.int (nI c)), none] [] := by
      refine loopN 8 (fun c hh16 ih16 => ?_)
      refine g_iload_n hX dX4_meanSum_16 rfl ?_
      refine g_bipush hX dX4_meanSum_17 kn_b_8 ?_
      refine g_icmpN_ge (tgt := 63) hX dX4_meanSum_19 (by decide) (by omega) (by omega) (fun h19 => ?_) (fun h19 => ?_)
      · skip
        obtain rfl : c = 8 := by omega
        refine g_iload_n hX dX4_meanSum_63 rfl ?_
        subst hQ
        exact g_iret hX dX4_meanSum_64 (iR (if_pos h4)) (rfl) rfl rfl
      · skip
        refine g_iconst hX dX4_meanSum_22 kn_i_0 ?_
        refine g_istore_n (L' := [some (.ref v0), some (.int (siS r i j (8 * c))), some (.int (nI c)), some (.int (nI 0))]) hX dX4_meanSum_23 (by decide) rfl ?_
        have loop24 : ∀ d : Nat, d ≤ 8 → G X Q [(v0, .inr (5, [.ref s0, .ref l0, .ref g0, .int sv, .int (nI i), .int (nI j), .int (nI (prN r i j)), .int (nI (jdN r i j)), .int (nI (kpN r i j o 41)), .int (kSm r i j o 41), .int (kLs r i j o 41), .ref v1])), (s0, .inr (6, [.int (r 0), .ref s1, .ref s2, .ref s3, .ref s4, .int vn])), (s1, .inl (D.1 100, 16, .inl (sE r))), (s3, .inl (D.1 100, 5, .inl (sT r))), (l0, .inr (2, [.ref l1, .int (nI (clM r 0)), .ref l2, .ref l3])), (l1, .inl (D.1 100, 8, .inl (clA r 0))), (g0, .inr (2, [.ref g1, .int (nI (clM r 1)), .ref g2, .ref g3])), (g1, .inl (D.1 100, 8, .inl (clA r 1)))] 0 0 24 [some (.ref v0), some (.int (siS r i j (8 * c + d))), some (.int (nI c)), some (.int (nI d))] [] := by
          refine loopN 8 (fun d hh24 ih24 => ?_)
          refine g_iload_n hX dX4_meanSum_24 rfl ?_
          refine g_bipush hX dX4_meanSum_25 kn_b_8 ?_
          refine g_icmpN_ge (tgt := 57) hX dX4_meanSum_27 (by decide) (by omega) (by omega) (fun h27 => ?_) (fun h27 => ?_)
          · skip
            obtain rfl : d = 8 := by omega
            refine g_iincN (L' := [some (.ref v0), some (.int (siS r i j (8 * c + 8))), some (.int (nI (c + 1))), some (.int (nI 8))]) hX dX4_meanSum_57 rfl (by decide) rfl ?_
            refine g_goto (tgt := 16) hX dX4_meanSum_60 (by decide) ?_
            exact g_fin (ih16 (by omega) ) (rfl) rfl ⟨rfl, (by rw [show 8 * (c + 1) = 8 * c + 8 by omega]), rfl, trivial⟩
          · skip
            refine g_aload_n hX dX4_meanSum_30 rfl ?_
            refine g_iload_n hX dX4_meanSum_31 rfl ?_
            refine g_iload_n hX dX4_meanSum_32 rfl ?_
            refine g_callRi hX dX4_meanSum_33 cw_X4_63 (ct_X4_inCell  (by omega) (by omega) (by omega) (by omega)) 0 5 [0, 4, 5, 6, 7] rfl rfl rfl rfl (by decide) rfl ⟨by decide, by decide⟩ (Nat.le_of_ble_eq_true rfl) (Nat.le_refl _) (Nat.le_refl _) ?_
            refine g_ifb_eq (tgt := 51) hX dX4_meanSum_36 (by decide) (fun h36 => ?_) (fun h36 => ?_)
            · skip
              refine g_iincN (L' := [some (.ref v0), some (.int (siS r i j (8 * c + d))), some (.int (nI c)), some (.int (nI (d + 1)))]) hX dX4_meanSum_51 rfl (by decide) rfl ?_
              refine g_goto (tgt := 24) hX dX4_meanSum_54 (by decide) ?_
              exact g_fin (ih24 (by omega) ) (rfl) rfl ⟨rfl, (congrArg some (congrArg Value.int (si_0 ((inC_cd (by omega)).trans h36)))), rfl, rfl, trivial⟩
            · skip
              refine g_iload_n hX dX4_meanSum_39 rfl ?_
              refine g_aload_n hX dX4_meanSum_40 rfl ?_
              refine g_getf hX dX4_meanSum_41 fk_X4_50 0 rfl rfl ?_
              refine g_iload_n hX dX4_meanSum_44 rfl ?_
              refine g_iload_n hX dX4_meanSum_45 rfl ?_
              refine g_callRi hX dX4_meanSum_46 cw_X4_92 (ct_X5_sightGap  (by first | with_reducible assumption | assumption) (by omega) (by omega) (by omega)) 1 6 [1, 2, 3] rfl rfl rfl rfl (by decide) rfl ⟨by decide, by decide⟩ (Nat.le_of_ble_eq_true rfl) (Nat.le_refl _) (Nat.le_refl _) ?_
              refine g_iadd hX dX4_meanSum_49 ?_
              refine g_istore_n (L' := [some (.ref v0), some (.int ((siS r i j (8 * c + d)) + (sight r c d))), some (.int (nI c)), some (.int (nI d))]) hX dX4_meanSum_50 (by decide) rfl ?_
              refine g_iincN (L' := [some (.ref v0), some (.int ((siS r i j (8 * c + d)) + (sight r c d))), some (.int (nI c)), some (.int (nI (d + 1)))]) hX dX4_meanSum_51 rfl (by decide) rfl ?_
              refine g_goto (tgt := 24) hX dX4_meanSum_54 (by decide) ?_
              exact g_fin (ih24 (by omega) ) (rfl) rfl ⟨rfl, (congrArg some (congrArg Value.int (si_1 (by omega) ((inC_cd (by omega)).trans h36)))), rfl, rfl, trivial⟩
        exact g_fin (loop24 0 (by omega) ) (rfl) rfl ⟨rfl, rfl, rfl, rfl, trivial⟩
    exact g_fin (loop16 0 (by omega) ) (rfl) rfl ⟨rfl, rfl, rfl, trivial⟩
  · skip
    refine g_aload_n hX dX4_meanSum_7 rfl ?_
    refine g_getf hX dX4_meanSum_8 fk_X4_40 0 rfl rfl ?_
    subst hQ
    exact g_iret hX dX4_meanSum_11 (iR (if_neg h4)) (rfl) rfl rfl
