set_option maxRecDepth 100000 in
set_option maxHeartbeats 4000000 in
theorem ct_X5_learn {l : Launch} {D : va_G} {s0 s1 s2 s3 s4 : Nat} {r : Nat → Int32} {vn : Int32} {c x y z : Nat} (hc : c < 8) (hx : x ≤ 99999) (hy : y ≤ 99999) : Cf l D yX5_learn cX5_learn 5 none 0 0 [.ref s0, .int (nI c), .int (nI x), .int (nI y), .int (nI z)] [(s0, .inr (6, [.int (r 0), .ref s1, .ref s2, .ref s3, .ref s4, .int vn])), (s1, .inl (D.1 100, 16, .inl (sE r))), (s2, .inl (D.1 100, 8, .inl (sB r))), (s3, .inl (D.1 100, 5, .inl (sT r))), (s4, .inl (D.1 100, 64, .inl (sG r)))] none [(s0, .inr (6, [.int ((rKnow r c (dgt x) (dgt y) z) 0), .ref s1, .ref s2, .ref s3, .ref s4, .int (vn + nI 1)])), (s1, .inl (D.1 100, 16, .inl (sE (rKnow r c (dgt x) (dgt y) z)))), (s2, .inl (D.1 100, 8, .inl (sB (rKnow r c (dgt x) (dgt y) z)))), (s3, .inl (D.1 100, 5, .inl (sT (rKnow r c (dgt x) (dgt y) z)))), (s4, .inl (D.1 100, 64, .inl (sG (rKnow r c (dgt x) (dgt y) z))))] := by
  refine Ct.ofG (by decide) (Nat.le_of_ble_eq_true rfl) ?_
  intro X hX
  have hX : CX X l D RX5 "learn" cX5_learn 5 none 0 0 0 0 := hX
  show G X (QF X none [(s0, .inr (6, [.int ((rKnow r c (dgt x) (dgt y) z) 0), .ref s1, .ref s2, .ref s3, .ref s4, .int (vn + nI 1)])), (s1, .inl (D.1 100, 16, .inl (sE (rKnow r c (dgt x) (dgt y) z)))), (s2, .inl (D.1 100, 8, .inl (sB (rKnow r c (dgt x) (dgt y) z)))), (s3, .inl (D.1 100, 5, .inl (sT (rKnow r c (dgt x) (dgt y) z)))), (s4, .inl (D.1 100, 64, .inl (sG (rKnow r c (dgt x) (dgt y) z))))]) [(s0, .inr (6, [.int (r 0), .ref s1, .ref s2, .ref s3, .ref s4, .int vn])), (s1, .inl (D.1 100, 16, .inl (sE r))), (s2, .inl (D.1 100, 8, .inl (sB r))), (s3, .inl (D.1 100, 5, .inl (sT r))), (s4, .inl (D.1 100, 64, .inl (sG r)))] 0 0 0 [some (.ref s0), some (.int (nI c)), some (.int (nI x)), some (.int (nI y)), some (.int (nI z))] []
  generalize hQ : QF X none [(s0, .inr (6, [.int ((rKnow r c (dgt x) (dgt y) z) 0), .ref s1, .ref s2, .ref s3, .ref s4, .int (vn + nI 1)])), (s1, .inl (D.1 100, 16, .inl (sE (rKnow r c (dgt x) (dgt y) z)))), (s2, .inl (D.1 100, 8, .inl (sB (rKnow r c (dgt x) (dgt y) z)))), (s3, .inl (D.1 100, 5, .inl (sT (rKnow r c (dgt x) (dgt y) z)))), (s4, .inl (D.1 100, 64, .inl (sG (rKnow r c (dgt x) (dgt y) z))))] = Q
  refine g_aload_n hX dX5_learn_0 rfl ?_
  refine g_dup hX dX5_learn_1 rfl ?_
  refine g_getf hX dX5_learn_2 fk_X5_9 0 rfl rfl ?_
  refine g_iconst hX dX5_learn_5 kn_i_1 ?_
  refine g_iload_n hX dX5_learn_6 rfl ?_
  refine g_ishl hX dX5_learn_7 ?_
  refine g_ior hX dX5_learn_8 ?_
  refine g_puti (ws' := [(s0, .inr (6, [.int ((r 0) ||| ((nI 1) <<< ((nI c) &&& 31))), .ref s1, .ref s2, .ref s3, .ref s4, .int vn])), (s1, .inl (D.1 100, 16, .inl (sE r))), (s2, .inl (D.1 100, 8, .inl (sB r))), (s3, .inl (D.1 100, 5, .inl (sT r))), (s4, .inl (D.1 100, 64, .inl (sG r)))]) hX dX5_learn_9 fp_X5_9 0 rfl (Nat.le_of_ble_eq_true rfl) rfl ?_
  refine g_aload_n hX dX5_learn_12 rfl ?_
  refine g_getf hX dX5_learn_13 fk_X5_15 0 rfl rfl ?_
  refine g_iconst hX dX5_learn_16 kn_i_0 ?_
  refine g_iload_n hX dX5_learn_17 rfl ?_
  refine g_iaddN hX dX5_learn_18 ?_
  refine g_iload_n hX dX5_learn_19 rfl ?_
  refine g_iast (ws' := [(s0, .inr (6, [.int ((r 0) ||| ((nI 1) <<< ((nI c) &&& 31))), .ref s1, .ref s2, .ref s3, .ref s4, .int vn])), (s1, .inl (D.1 100, 16, .inl (upd (sE r) (0 + c) (nI x)))), (s2, .inl (D.1 100, 8, .inl (sB r))), (s3, .inl (D.1 100, 5, .inl (sT r))), (s4, .inl (D.1 100, 64, .inl (sG r)))]) hX dX5_learn_20 1 rfl (by decide) (by omega) rfl ?_
  refine g_aload_n hX dX5_learn_21 rfl ?_
  refine g_getf hX dX5_learn_22 fk_X5_15 0 rfl rfl ?_
  refine g_bipush hX dX5_learn_25 kn_b_8 ?_
  refine g_iload_n hX dX5_learn_27 rfl ?_
  refine g_iaddN hX dX5_learn_28 ?_
  refine g_iload_n hX dX5_learn_29 rfl ?_
  refine g_iast (ws' := [(s0, .inr (6, [.int ((r 0) ||| ((nI 1) <<< ((nI c) &&& 31))), .ref s1, .ref s2, .ref s3, .ref s4, .int vn])), (s1, .inl (D.1 100, 16, .inl (upd (upd (sE r) (0 + c) (nI x)) (8 + c) (nI y)))), (s2, .inl (D.1 100, 8, .inl (sB r))), (s3, .inl (D.1 100, 5, .inl (sT r))), (s4, .inl (D.1 100, 64, .inl (sG r)))]) hX dX5_learn_30 1 rfl (by decide) (by omega) rfl ?_
  refine g_aload_n hX dX5_learn_31 rfl ?_
  refine g_getf hX dX5_learn_32 fk_X5_19 0 rfl rfl ?_
  refine g_iload_n hX dX5_learn_35 rfl ?_
  refine g_iload hX dX5_learn_36 rfl ?_
  refine g_iast (ws' := [(s0, .inr (6, [.int ((r 0) ||| ((nI 1) <<< ((nI c) &&& 31))), .ref s1, .ref s2, .ref s3, .ref s4, .int vn])), (s1, .inl (D.1 100, 16, .inl (upd (upd (sE r) (0 + c) (nI x)) (8 + c) (nI y)))), (s2, .inl (D.1 100, 8, .inl (upd (sB r) c (nI z)))), (s3, .inl (D.1 100, 5, .inl (sT r))), (s4, .inl (D.1 100, 64, .inl (sG r)))]) hX dX5_learn_38 2 rfl (by decide) (by omega) rfl ?_
  refine g_aload_n hX dX5_learn_39 rfl ?_
  refine g_dup hX dX5_learn_40 rfl ?_
  refine g_getf hX dX5_learn_41 fk_X5_28 0 rfl rfl ?_
  refine g_iconst hX dX5_learn_44 kn_i_1 ?_
  refine g_iadd hX dX5_learn_45 ?_
  refine g_puti (ws' := [(s0, .inr (6, [.int ((r 0) ||| ((nI 1) <<< ((nI c) &&& 31))), .ref s1, .ref s2, .ref s3, .ref s4, .int (vn + (nI 1))])), (s1, .inl (D.1 100, 16, .inl (upd (upd (sE r) (0 + c) (nI x)) (8 + c) (nI y)))), (s2, .inl (D.1 100, 8, .inl (upd (sB r) c (nI z)))), (s3, .inl (D.1 100, 5, .inl (sT r))), (s4, .inl (D.1 100, 64, .inl (sG r)))]) hX dX5_learn_46 fp_X5_28 0 rfl (Nat.le_of_ble_eq_true rfl) rfl ?_
  subst hQ
  exact g_vret hX dX5_learn_49 rfl (by rw [rKnow_0, rKnow_E hc hx hy, rKnow_B (x := x) (y := y) hc, ← rKnow_T hc, ← rKnow_G hc]) rfl rfl
set_option maxRecDepth 100000 in
set_option maxHeartbeats 4000000 in
theorem ct_X5_drop {l : Launch} {D : va_G} {s0 s1 s2 s3 s4 : Nat} {r : Nat → Int32} {vn : Int32} {c : Nat} (hc : c < 8) : Cf l D yX5_drop cX5_drop 3 none 0 0 [.ref s0, .int (nI c)] [(s0, .inr (6, [.int (r 0), .ref s1, .ref s2, .ref s3, .ref s4, .int vn])), (s1, .inl (D.1 100, 16, .inl (sE r))), (s2, .inl (D.1 100, 8, .inl (sB r))), (s3, .inl (D.1 100, 5, .inl (sT r))), (s4, .inl (D.1 100, 64, .inl (sG r)))] none [(s0, .inr (6, [.int ((dropR r c) 0), .ref s1, .ref s2, .ref s3, .ref s4, .int (vn + nI 1)])), (s1, .inl (D.1 100, 16, .inl (sE (dropR r c)))), (s2, .inl (D.1 100, 8, .inl (sB (dropR r c)))), (s3, .inl (D.1 100, 5, .inl (sT (dropR r c)))), (s4, .inl (D.1 100, 64, .inl (sG (dropR r c))))] := by
  refine Ct.ofG (by decide) (Nat.le_of_ble_eq_true rfl) ?_
  intro X hX
  have hX : CX X l D RX5 "drop" cX5_drop 3 none 0 0 0 0 := hX
  show G X (QF X none [(s0, .inr (6, [.int ((dropR r c) 0), .ref s1, .ref s2, .ref s3, .ref s4, .int (vn + nI 1)])), (s1, .inl (D.1 100, 16, .inl (sE (dropR r c)))), (s2, .inl (D.1 100, 8, .inl (sB (dropR r c)))), (s3, .inl (D.1 100, 5, .inl (sT (dropR r c)))), (s4, .inl (D.1 100, 64, .inl (sG (dropR r c))))]) [(s0, .inr (6, [.int (r 0), .ref s1, .ref s2, .ref s3, .ref s4, .int vn])), (s1, .inl (D.1 100, 16, .inl (sE r))), (s2, .inl (D.1 100, 8, .inl (sB r))), (s3, .inl (D.1 100, 5, .inl (sT r))), (s4, .inl (D.1 100, 64, .inl (sG r)))] 0 0 0 [some (.ref s0), some (.int (nI c)), none] []
  generalize hQ : QF X none [(s0, .inr (6, [.int ((dropR r c) 0), .ref s1, .ref s2, .ref s3, .ref s4, .int (vn + nI 1)])), (s1, .inl (D.1 100, 16, .inl (sE (dropR r c)))), (s2, .inl (D.1 100, 8, .inl (sB (dropR r c)))), (s3, .inl (D.1 100, 5, .inl (sT (dropR r c)))), (s4, .inl (D.1 100, 64, .inl (sG (dropR r c))))] = Q
  refine g_aload_n hX dX5_drop_0 rfl ?_
  refine g_dup hX dX5_drop_1 rfl ?_
  refine g_getf hX dX5_drop_2 fk_X5_9 0 rfl rfl ?_
  refine g_iconst hX dX5_drop_5 kn_i_1 ?_
  refine g_iload_n hX dX5_drop_6 rfl ?_
  refine g_ishl hX dX5_drop_7 ?_
  refine g_iconst hX dX5_drop_8 kn_i_m1 ?_
  refine g_ixor hX dX5_drop_9 ?_
  refine g_iand hX dX5_drop_10 ?_
  refine g_puti (ws' := [(s0, .inr (6, [.int ((r 0) &&& (((nI 1) <<< ((nI c) &&& 31)) ^^^ (-1))), .ref s1, .ref s2, .ref s3, .ref s4, .int vn])), (s1, .inl (D.1 100, 16, .inl (sE r))), (s2, .inl (D.1 100, 8, .inl (sB r))), (s3, .inl (D.1 100, 5, .inl (sT r))), (s4, .inl (D.1 100, 64, .inl (sG r)))]) hX dX5_drop_11 fp_X5_9 0 rfl (Nat.le_of_ble_eq_true rfl) rfl ?_
  refine g_iconst hX dX5_drop_14 kn_i_0 ?_
  refine g_istore_n (L' := [some (.ref s0), some (.int (nI c)), some (.int (nI 0))]) hX dX5_drop_15 (by decide) rfl ?_
  have loop16 : ∀ n : Nat, n ≤ 8 → G X Q [(s0, .inr (6, [.int ((r 0) &&& (((nI 1) <<< ((nI c) &&& 31)) ^^^ (-1))), .ref s1, .ref s2, .ref s3, .ref s4, .int vn])), (s1, .inl (D.1 100, 16, .inl (sE r))), (s2, .inl (D.1 100, 8, .inl (sB r))), (s3, .inl (D.1 100, 5, .inl (sT r))), (s4, .inl (D.1 100, 64, .inl (sG (forgTo r c n))))] 0 0 16 [some (.ref s0), some (.int (nI c)), some (.int (nI n))] [] := by
    refine loopN 8 (fun n hh16 ih16 => ?_)
    refine g_iload_n hX dX5_drop_16 rfl ?_
    refine g_bipush hX dX5_drop_17 kn_b_8 ?_
    refine g_icmpN_ge (tgt := 56) hX dX5_drop_19 (by decide) (by omega) (by omega) (fun h19 => ?_) (fun h19 => ?_)
    · skip
      obtain rfl : n = 8 := by omega
      refine g_aload_n hX dX5_drop_56 rfl ?_
      refine g_dup hX dX5_drop_57 rfl ?_
      refine g_getf hX dX5_drop_58 fk_X5_28 0 rfl rfl ?_
      refine g_iconst hX dX5_drop_61 kn_i_1 ?_
      refine g_iadd hX dX5_drop_62 ?_
      refine g_puti (ws' := [(s0, .inr (6, [.int ((r 0) &&& (((nI 1) <<< ((nI c) &&& 31)) ^^^ (-1))), .ref s1, .ref s2, .ref s3, .ref s4, .int (vn + (nI 1))])), (s1, .inl (D.1 100, 16, .inl (sE r))), (s2, .inl (D.1 100, 8, .inl (sB r))), (s3, .inl (D.1 100, 5, .inl (sT r))), (s4, .inl (D.1 100, 64, .inl (sG (forgTo r c 8))))]) hX dX5_drop_63 fp_X5_28 0 rfl (Nat.le_of_ble_eq_true rfl) rfl ?_
      subst hQ
      exact g_vret hX dX5_drop_66 rfl (by rw [dropR_0, ← dropR_E, ← dropR_B, ← dropR_T, dropR_G]) rfl rfl
    · skip
      refine g_aload_n hX dX5_drop_22 rfl ?_
      refine g_getf hX dX5_drop_23 fk_X5_25 0 rfl rfl ?_
      refine g_iload_n hX dX5_drop_26 rfl ?_
      refine g_bipush hX dX5_drop_27 kn_b_8 ?_
      refine g_imulN hX dX5_drop_29 ?_
      refine g_iload_n hX dX5_drop_30 rfl ?_
      refine g_iaddN hX dX5_drop_31 ?_
      refine g_sipush hX dX5_drop_32 kn_s_1000 ?_
      refine g_iast (ws' := [(s0, .inr (6, [.int ((r 0) &&& (((nI 1) <<< ((nI c) &&& 31)) ^^^ (-1))), .ref s1, .ref s2, .ref s3, .ref s4, .int vn])), (s1, .inl (D.1 100, 16, .inl (sE r))), (s2, .inl (D.1 100, 8, .inl (sB r))), (s3, .inl (D.1 100, 5, .inl (sT r))), (s4, .inl (D.1 100, 64, .inl (upd (sG (forgTo r c n)) ((c * 8) + n) (nI 1000))))]) hX dX5_drop_35 4 rfl (by decide) (by omega) rfl ?_
      refine g_aload_n hX dX5_drop_36 rfl ?_
      refine g_getf hX dX5_drop_37 fk_X5_25 0 rfl rfl ?_
      refine g_iload_n hX dX5_drop_40 rfl ?_
      refine g_bipush hX dX5_drop_41 kn_b_8 ?_
      refine g_imulN hX dX5_drop_43 ?_
      refine g_iload_n hX dX5_drop_44 rfl ?_
      refine g_iaddN hX dX5_drop_45 ?_
      refine g_sipush hX dX5_drop_46 kn_s_1000 ?_
      refine g_iast (ws' := [(s0, .inr (6, [.int ((r 0) &&& (((nI 1) <<< ((nI c) &&& 31)) ^^^ (-1))), .ref s1, .ref s2, .ref s3, .ref s4, .int vn])), (s1, .inl (D.1 100, 16, .inl (sE r))), (s2, .inl (D.1 100, 8, .inl (sB r))), (s3, .inl (D.1 100, 5, .inl (sT r))), (s4, .inl (D.1 100, 64, .inl (upd (upd (sG (forgTo r c n)) ((c * 8) + n) (nI 1000)) ((n * 8) + c) (nI 1000))))]) hX dX5_drop_49 4 rfl (by decide) (by omega) rfl ?_
      refine g_iincN (L' := [some (.ref s0), some (.int (nI c)), some (.int (nI (n + 1)))]) hX dX5_drop_50 rfl (by decide) rfl ?_
      refine g_goto (tgt := 16) hX dX5_drop_53 (by decide) ?_
      exact g_fin (ih16 (by omega) ) (by rw [drop_s hc (by omega)]) rfl ⟨rfl, rfl, rfl, trivial⟩
  exact g_fin (loop16 0 (by omega) ) (by rw [forgTo_0]) rfl ⟨rfl, rfl, rfl, trivial⟩
theorem jd_iff {r : Nat → Int32} (hg : okG r) {k : Nat} (hk : k < 64) : (sG r k = nI 1000) ↔ (r (94 + k) ≤ 0) := by
  obtain ⟨g, g1, g2⟩ := hg k hk
  unfold sG
  rw [if_pos hk, g2]
  exact gG_j g1
theorem jm_0 {r : Nat → Int32} (hg : okG r) {k : Nat} (hk : k < 64) (h : sG r k = nI 1000) : jmTo r k = jmTo r (k + 1) := by
  show _ = jmTo r k + bI (!decide (r (94 + k) ≤ 0))
  rw [decide_eq_true ((jd_iff hg hk).mp h)]
  exact (Int32.add_zero _).symm
theorem jm_1 {r : Nat → Int32} (hg : okG r) {k : Nat} (hk : k < 64) (h : ¬ sG r k = nI 1000) : jmTo r k + 1 = jmTo r (k + 1) := by
  show _ = jmTo r k + bI (!decide (r (94 + k) ≤ 0))
  rw [decide_eq_false (fun q => h ((jd_iff hg hk).mpr q))]
  rfl
set_option maxRecDepth 100000 in
set_option maxHeartbeats 4000000 in
theorem ct_X5_countJudged {l : Launch} {D : va_G} {s0 s1 s2 s3 s4 : Nat} {r : Nat → Int32} {kk vn : Int32} (hg : okG r) : Cf l D yX5_countJudged cX5_countJudged 3 (some .int) 0 0 [.ref s0] [(s0, .inr (6, [.int kk, .ref s1, .ref s2, .ref s3, .ref s4, .int vn])), (s4, .inl (D.1 100, 64, .inl (sG r)))] (some (.int (jmTo r 64))) [(s0, .inr (6, [.int kk, .ref s1, .ref s2, .ref s3, .ref s4, .int vn])), (s4, .inl (D.1 100, 64, .inl (sG r)))] := by
  refine Ct.ofG (by decide) (Nat.le_of_ble_eq_true rfl) ?_
  intro X hX
  have hX : CX X l D RX5 "countJudged" cX5_countJudged 3 (some .int) 0 0 0 0 := hX
  show G X (QF X (some (.int (jmTo r 64))) [(s0, .inr (6, [.int kk, .ref s1, .ref s2, .ref s3, .ref s4, .int vn])), (s4, .inl (D.1 100, 64, .inl (sG r)))]) [(s0, .inr (6, [.int kk, .ref s1, .ref s2, .ref s3, .ref s4, .int vn])), (s4, .inl (D.1 100, 64, .inl (sG r)))] 0 0 0 [some (.ref s0), none, none] []
  generalize hQ : QF X (some (.int (jmTo r 64))) [(s0, .inr (6, [.int kk, .ref s1, .ref s2, .ref s3, .ref s4, .int vn])), (s4, .inl (D.1 100, 64, .inl (sG r)))] = Q
  refine g_iconst hX dX5_countJudged_0 kn_i_0 ?_
  refine g_istore_n (L' := [some (.ref s0), some (.int (nI 0)), none]) hX dX5_countJudged_1 (by decide) rfl ?_
  refine g_iconst hX dX5_countJudged_2 kn_i_0 ?_
  refine g_istore_n (L' := [some (.ref s0), some (.int (nI 0)), some (.int (nI 0))]) hX dX5_countJudged_3 (by decide) rfl ?_
  have loop4 : ∀ k : Nat, k ≤ 64 → G X Q [(s0, .inr (6, [.int kk, .ref s1, .ref s2, .ref s3, .ref s4, .int vn])), (s4, .inl (D.1 100, 64, .inl (sG r)))] 0 0 4 [some (.ref s0), some (.int (jmTo r k)), some (.int (nI k))] [] := by
    refine loopN 64 (fun k hh4 ih4 => ?_)
    refine g_iload_n hX dX5_countJudged_4 rfl ?_
    refine g_aload_n hX dX5_countJudged_5 rfl ?_
    refine g_getf hX dX5_countJudged_6 fk_X5_25 0 rfl rfl ?_
    refine g_aleni hX dX5_countJudged_9 1 rfl ?_
    refine g_icmpN_ge (tgt := 34) hX dX5_countJudged_10 (by decide) (by omega) (by omega) (fun h10 => ?_) (fun h10 => ?_)
    · skip
      obtain rfl : k = 64 := by omega
      refine g_iload_n hX dX5_countJudged_34 rfl ?_
      subst hQ
      exact g_iret hX dX5_countJudged_35 (rfl) (rfl) rfl rfl
    · skip
      refine g_aload_n hX dX5_countJudged_13 rfl ?_
      refine g_getf hX dX5_countJudged_14 fk_X5_25 0 rfl rfl ?_
      refine g_iload_n hX dX5_countJudged_17 rfl ?_
      refine g_iald hX dX5_countJudged_18 1 rfl (by decide) (by omega) ?_
      refine g_sipush hX dX5_countJudged_19 kn_s_1000 ?_
      refine g_icmp_eq (tgt := 28) hX dX5_countJudged_22 (by decide) (fun h22 => ?_) (fun h22 => ?_)
      · skip
        refine g_iincN (L' := [some (.ref s0), some (.int (jmTo r k)), some (.int (nI (k + 1)))]) hX dX5_countJudged_28 rfl (by decide) rfl ?_
        refine g_goto (tgt := 4) hX dX5_countJudged_31 (by decide) ?_
        exact g_fin (ih4 (by omega) ) (rfl) rfl ⟨rfl, (congrArg some (congrArg Value.int (jm_0 hg (by omega) h22))), rfl, trivial⟩
      · skip
        refine g_iinc (L' := [some (.ref s0), some (.int ((jmTo r k) + 1)), some (.int (nI k))]) hX dX5_countJudged_25 rfl (by rfl) (by decide) rfl ?_
        refine g_iincN (L' := [some (.ref s0), some (.int ((jmTo r k) + 1)), some (.int (nI (k + 1)))]) hX dX5_countJudged_28 rfl (by decide) rfl ?_
        refine g_goto (tgt := 4) hX dX5_countJudged_31 (by decide) ?_
        exact g_fin (ih4 (by omega) ) (rfl) rfl ⟨rfl, (congrArg some (congrArg Value.int (jm_1 hg (by omega) h22))), rfl, trivial⟩
  exact g_fin (loop4 0 (by omega) ) (rfl) rfl ⟨rfl, rfl, rfl, trivial⟩
