set_option maxRecDepth 100000 in
set_option maxHeartbeats 4000000 in
theorem ct_X1_part {l : Launch} {D : va_G} {s0 s1 s2 s3 s4 p0 p1 p2 p3 side : Nat} {r cO mb lk : Nat → Int32} {vn ct : Int32} (hD : okD r) (h1 : 0 ≤ r 1) (hs : side < 2) : Ct (S := (Nat → Int32) × (Nat → Int32)) l D yX1_part cX1_part 4 none 9 216 0 0 [.ref p0, .ref s0, .int (nI side)] [(p0, .inr (2, [.ref p1, .int ct, .ref p2, .ref p3])), (p1, .inl (D.1 100, 8, .inl cO)), (p2, .inl (D.1 100, 8, .inl lk)), (p3, .inl (D.1 100, 8, .inl mb)), (s0, .inr (6, [.int (r 0), .ref s1, .ref s2, .ref s3, .ref s4, .int vn])), (s1, .inl (D.1 100, 16, .inl (sE r))), (s3, .inl (D.1 100, 5, .inl (sT r)))] (fun (r : Option Value) (u : (Nat → Int32) × (Nat → Int32)) => match u with | (mb2, lk2) => r = none) (fun (u : (Nat → Int32) × (Nat → Int32)) => match u with | (mb2, lk2) => ([(p0, .inr (2, [.ref p1, .int (nI (clM r side)), .ref p2, .ref p3])), (p1, .inl (D.1 100, 8, .inl (clA r side))), (p2, .inl (D.1 100, 8, .inl lk2)), (p3, .inl (D.1 100, 8, .inl mb2)), (s0, .inr (6, [.int (r 0), .ref s1, .ref s2, .ref s3, .ref s4, .int vn])), (s1, .inl (D.1 100, 16, .inl (sE r))), (s3, .inl (D.1 100, 5, .inl (sT r)))] : va_W)) := by
  refine Ct.ofG (by decide) (Nat.le_of_ble_eq_true rfl) ?_
  intro X hX
  have hX : CX X l D RX1 "part" cX1_part 4 none 9 216 0 0 := hX
  show G X (QM X 0 0 (fun (r : Option Value) (u : (Nat → Int32) × (Nat → Int32)) => match u with | (mb2, lk2) => r = none) (fun (u : (Nat → Int32) × (Nat → Int32)) => match u with | (mb2, lk2) => ([(p0, .inr (2, [.ref p1, .int (nI (clM r side)), .ref p2, .ref p3])), (p1, .inl (D.1 100, 8, .inl (clA r side))), (p2, .inl (D.1 100, 8, .inl lk2)), (p3, .inl (D.1 100, 8, .inl mb2)), (s0, .inr (6, [.int (r 0), .ref s1, .ref s2, .ref s3, .ref s4, .int vn])), (s1, .inl (D.1 100, 16, .inl (sE r))), (s3, .inl (D.1 100, 5, .inl (sT r)))] : va_W))) [(p0, .inr (2, [.ref p1, .int ct, .ref p2, .ref p3])), (p1, .inl (D.1 100, 8, .inl cO)), (p2, .inl (D.1 100, 8, .inl lk)), (p3, .inl (D.1 100, 8, .inl mb)), (s0, .inr (6, [.int (r 0), .ref s1, .ref s2, .ref s3, .ref s4, .int vn])), (s1, .inl (D.1 100, 16, .inl (sE r))), (s3, .inl (D.1 100, 5, .inl (sT r)))] 0 0 0 [some (.ref p0), some (.ref s0), some (.int (nI side)), none] []
  generalize hQ : QM X 0 0 (fun (r : Option Value) (u : (Nat → Int32) × (Nat → Int32)) => match u with | (mb2, lk2) => r = none) (fun (u : (Nat → Int32) × (Nat → Int32)) => match u with | (mb2, lk2) => ([(p0, .inr (2, [.ref p1, .int (nI (clM r side)), .ref p2, .ref p3])), (p1, .inl (D.1 100, 8, .inl (clA r side))), (p2, .inl (D.1 100, 8, .inl lk2)), (p3, .inl (D.1 100, 8, .inl mb2)), (s0, .inr (6, [.int (r 0), .ref s1, .ref s2, .ref s3, .ref s4, .int vn])), (s1, .inl (D.1 100, 16, .inl (sE r))), (s3, .inl (D.1 100, 5, .inl (sT r)))] : va_W)) = Q
  refine g_iconst hX dX1_part_0 kn_i_0 ?_
  refine g_istore_n (L' := [some (.ref p0), some (.ref s0), some (.int (nI side)), some (.int (nI 0))]) hX dX1_part_1 (by decide) rfl ?_
  have loop2 : ∀ c : Nat, c ≤ 8 → G X Q [(p0, .inr (2, [.ref p1, .int ct, .ref p2, .ref p3])), (p1, .inl (D.1 100, 8, .inl cO)), (p2, .inl (D.1 100, 8, .inl (lkTo r side lk c))), (p3, .inl (D.1 100, 8, .inl mb)), (s0, .inr (6, [.int (r 0), .ref s1, .ref s2, .ref s3, .ref s4, .int vn])), (s1, .inl (D.1 100, 16, .inl (sE r))), (s3, .inl (D.1 100, 5, .inl (sT r)))] 0 0 2 [some (.ref p0), some (.ref s0), some (.int (nI side)), some (.int (nI c))] [] := by
    refine loopN 8 (fun c hh2 ih2 => ?_)
    refine g_iload_n hX dX1_part_2 rfl ?_
    refine g_bipush hX dX1_part_3 kn_b_8 ?_
    refine g_icmpN_ge (tgt := 38) hX dX1_part_5 (by decide) (by omega) (by omega) (fun h5 => ?_) (fun h5 => ?_)
    · skip
      obtain rfl : c = 8 := by omega
      refine g_iconst hX dX1_part_38 kn_i_0 ?_
      refine g_istore_n (L' := [some (.ref p0), some (.ref s0), some (.int (nI side)), some (.int (nI 0))]) hX dX1_part_39 (by decide) rfl ?_
      have loop40 : ∀ z : Nat × (Nat → Int32) × (Nat → Int32) × Int32, match z with | (m, cO1, mb1, ct1) => (m ≤ 8) → (∀ j, j < m → svR r side j = none) → G X Q [(p0, .inr (2, [.ref p1, .int ct1, .ref p2, .ref p3])), (p1, .inl (D.1 100, 8, .inl cO1)), (p2, .inl (D.1 100, 8, .inl (lkTo r side lk 8))), (p3, .inl (D.1 100, 8, .inl mb1)), (s0, .inr (6, [.int (r 0), .ref s1, .ref s2, .ref s3, .ref s4, .int vn])), (s1, .inl (D.1 100, 16, .inl (sE r))), (s3, .inl (D.1 100, 5, .inl (sT r)))] 0 0 40 [some (.ref p0), some (.ref s0), some (.int (nI side)), some (.int (nI m))] [] := by
        refine loopM (fun z : Nat × (Nat → Int32) × (Nat → Int32) × Int32 => match z with | (m, cO1, mb1, ct1) => 8 - m) (fun z ih40 => ?_)
        obtain ⟨m, cO1, mb1, ct1⟩ := z
        intro hm hn
        refine g_iload_n hX dX1_part_40 rfl ?_
        refine g_bipush hX dX1_part_41 kn_b_8 ?_
        refine g_icmpN_gt (tgt := 63) hX dX1_part_43 (by decide) (by omega) (by omega) (fun h => absurd h (by omega)) (fun h43 => ?_)
        refine g_aload_n hX dX1_part_46 rfl ?_
        refine g_iconst hX dX1_part_47 kn_i_0 ?_
        refine g_iconst hX dX1_part_48 kn_i_0 ?_
        refine g_iload_n hX dX1_part_49 rfl ?_
        refine g_callS hX dX1_part_50 cw_X1_35 (ct_X1_place_0  (plH_0 h1 hm)) [0, 1, 2, 3] rfl rfl (by decide) rfl (fun ⟨_, _, _⟩ => rfl) ⟨by decide, by decide⟩ (Nat.le_of_ble_eq_true rfl) ⟨Nat.le_refl _, Nat.le_refl _⟩ (fun v u hp => ?_)
        obtain ⟨cO250, mb250, ct250⟩ := u
        obtain ⟨rfl, hp50⟩ := hp
        show G X Q [(p0, .inr (2, [.ref p1, .int ct250, .ref p2, .ref p3])), (p1, .inl (D.1 100, 8, .inl cO250)), (p2, .inl (D.1 100, 8, .inl (lkTo r side lk 8))), (p3, .inl (D.1 100, 8, .inl mb250)), (s0, .inr (6, [.int (r 0), .ref s1, .ref s2, .ref s3, .ref s4, .int vn])), (s1, .inl (D.1 100, 16, .inl (sE r))), (s3, .inl (D.1 100, 5, .inl (sT r)))] 0 0 53 [some (.ref p0), some (.ref s0), some (.int (nI side)), some (.int (nI m))] [.int (bI ((sv (okS (knW r) (cmpW r side) m) 8 [] 0).isSome))]
        refine g_ifb_eq (tgt := 57) hX dX1_part_53 (by decide) (fun h53 => ?_) (fun h53 => ?_)
        · skip
          refine g_iincN (L' := [some (.ref p0), some (.ref s0), some (.int (nI side)), some (.int (nI (m + 1)))]) hX dX1_part_57 rfl (by decide) rfl ?_
          refine g_goto (tgt := 40) hX dX1_part_60 (by decide) ?_
          have hnm := part_none h53
          exact g_fin (ih40 (m + 1, cO250, mb250, ct250) (by have := part_lt hm hnm; show 8 - (m + 1) < 8 - m; omega) (part_lt hm hnm) (part_next hn hnm)) (rfl) rfl ⟨rfl, rfl, rfl, rfl, trivial⟩
        · skip
          obtain ⟨hcl, hct⟩ := part_done hp50 hn h53 hm
          subst hct
          refine g_cong (ws' := [(p0, .inr (2, [.ref p1, .int (nI (clM r side)), .ref p2, .ref p3])), (p1, .inl (D.1 100, 8, .inl (clA r side))), (p2, .inl (D.1 100, 8, .inl (lkTo r side lk 8))), (p3, .inl (D.1 100, 8, .inl mb250)), (s0, .inr (6, [.int (r 0), .ref s1, .ref s2, .ref s3, .ref s4, .int vn])), (s1, .inl (D.1 100, 16, .inl (sE r))), (s3, .inl (D.1 100, 5, .inl (sT r)))]) (g := clA r side) 1 rfl (hcl) rfl ?_
          subst hQ
          exact g_vretU hX dX1_part_56 (mb250, (lkTo r side lk 8)) (rfl) rfl (Nat.le_refl _) (Nat.le_refl _)
      exact g_fin (loop40 (0, cO, mb, ct) (by omega) (fun j hj => absurd hj (by omega))) (rfl) rfl ⟨rfl, rfl, rfl, rfl, trivial⟩
    · skip
      refine g_aload_n hX dX1_part_8 rfl ?_
      refine g_getf hX dX1_part_9 fk_X1_19 0 rfl rfl ?_
      refine g_iload_n hX dX1_part_12 rfl ?_
      refine g_aload_n hX dX1_part_13 rfl ?_
      refine g_iload_n hX dX1_part_14 rfl ?_
      refine g_callRi hX dX1_part_15 cw_X1_25 (ct_X5_knows_N  (by omega)) 4 6 [4] rfl rfl rfl rfl (by decide) rfl ⟨by decide, by decide⟩ (Nat.le_of_ble_eq_true rfl) (Nat.le_refl _) (Nat.le_refl _) ?_
      have J18 : ∀ (v18_0 : Int32), (v18_0 = (if kn (r 0) c then (likTo r (r 0) c side 8) else (nI 0))) → G X Q [(p0, .inr (2, [.ref p1, .int ct, .ref p2, .ref p3])), (p1, .inl (D.1 100, 8, .inl cO)), (p2, .inl (D.1 100, 8, .inl (lkTo r side lk c))), (p3, .inl (D.1 100, 8, .inl mb)), (s0, .inr (6, [.int (r 0), .ref s1, .ref s2, .ref s3, .ref s4, .int vn])), (s1, .inl (D.1 100, 16, .inl (sE r))), (s3, .inl (D.1 100, 5, .inl (sT r)))] 0 0 31 [some (.ref p0), some (.ref s0), some (.int (nI side)), some (.int (nI c))] [.int v18_0, .int (nI c), .ref p2] := by
        intro v18_0 ev18_0
        subst ev18_0
        refine g_top (v' := (lkI (knW r) (cmpW r side) c)) (lk_val) ?_
        refine g_iast (ws' := [(p0, .inr (2, [.ref p1, .int ct, .ref p2, .ref p3])), (p1, .inl (D.1 100, 8, .inl cO)), (p2, .inl (D.1 100, 8, .inl (upd (lkTo r side lk c) c (lkI (knW r) (cmpW r side) c)))), (p3, .inl (D.1 100, 8, .inl mb)), (s0, .inr (6, [.int (r 0), .ref s1, .ref s2, .ref s3, .ref s4, .int vn])), (s1, .inl (D.1 100, 16, .inl (sE r))), (s3, .inl (D.1 100, 5, .inl (sT r)))]) hX dX1_part_31 2 rfl (by decide) (by omega) rfl ?_
        refine g_iincN (L' := [some (.ref p0), some (.ref s0), some (.int (nI side)), some (.int (nI (c + 1)))]) hX dX1_part_32 rfl (by decide) rfl ?_
        refine g_goto (tgt := 2) hX dX1_part_35 (by decide) ?_
        exact g_fin (ih2 (by omega) ) (by rw [lkTo_s]) rfl ⟨rfl, rfl, rfl, rfl, trivial⟩
      refine g_ifb_eq (tgt := 30) hX dX1_part_18 (by decide) (fun h18 => ?_) (fun h18 => ?_)
      · skip
        refine g_iconst hX dX1_part_30 kn_i_0 ?_
        exact g_to (J18 (nI 0) (if_bf h18).symm) ⟨rfl, rfl, rfl, rfl, trivial⟩
      · skip
        refine g_aload_n hX dX1_part_21 rfl ?_
        refine g_iload_n hX dX1_part_22 rfl ?_
        refine g_iload_n hX dX1_part_23 rfl ?_
        refine g_callSRi hX dX1_part_24 cw_X1_31 (ct_X1_likeOnes  (by first | with_reducible assumption | assumption) (by omega) (by omega)) [4, 5, 6] rfl rfl (by decide) rfl ⟨by decide, by decide⟩ (Nat.le_of_ble_eq_true rfl) (Nat.le_refl _) (Nat.le_refl _) ?_
        refine g_goto (tgt := 31) hX dX1_part_27 (by decide) ?_
        exact g_to (J18 (likTo r (r 0) c side 8) (if_bt h18).symm) ⟨rfl, rfl, rfl, rfl, trivial⟩
  exact g_fin (loop2 0 (by omega) ) (by rw [lkTo_0]) rfl ⟨rfl, rfl, rfl, rfl, trivial⟩
