set_option maxRecDepth 100000 in
set_option maxHeartbeats 4000000 in
theorem ct_X7_sight {l : Launch} {D : va_G} {a0 a1 : Nat} {fs : List Value} {w : Nat → Int32} {c d : Nat} (hf : fs[0]? = some (.ref a1)) (hc : c < 8) (hd : d < 8) : Cf l D yX7_sight cX7_sight 4 (some .int) 2 49 [.ref a0, .int (nI c), .int (nI d)] [(a0, .inr (8, fs)), (a1, .inl (D.1 100, 3318, .inl w))] (some (.int (sight w c d))) [(a0, .inr (8, fs)), (a1, .inl (D.1 100, 3318, .inl w))] := by
  refine Ct.ofG (by decide) (Nat.le_of_ble_eq_true rfl) ?_
  intro X hX
  have hX : CX X l D RX7 "sight" cX7_sight 4 (some .int) 2 49 0 0 := hX
  show G X (QF X (some (.int (sight w c d))) [(a0, .inr (8, fs)), (a1, .inl (D.1 100, 3318, .inl w))]) [(a0, .inr (8, fs)), (a1, .inl (D.1 100, 3318, .inl w))] 0 0 0 [some (.ref a0), some (.int (nI c)), some (.int (nI d)), none] []
  generalize hQ : QF X (some (.int (sight w c d))) [(a0, .inr (8, fs)), (a1, .inl (D.1 100, 3318, .inl w))] = Q
  refine g_bipush hX dX7_sight_0 kn_b_m20 ?_
  refine g_istore_n (L' := [some (.ref a0), some (.int (nI c)), some (.int (nI d)), some (.int (-20))]) hX dX7_sight_2 (by decide) rfl ?_
  have loop3 : ∀ t : Nat, t ≤ 40 → (sight w c d = siAt w c d (40 - t) t) → G X Q [(a0, .inr (8, fs)), (a1, .inl (D.1 100, 3318, .inl w))] 0 0 3 [some (.ref a0), some (.int (nI c)), some (.int (nI d)), some (.int (gv t))] [] := by
    refine loopN 40 (fun t hh3 ih3 => ?_)
    intro hr
    have hg := gv_ge t hh3
    refine g_iload_n hX dX7_sight_3 rfl ?_
    refine g_bipush hX dX7_sight_4 kn_b_20 ?_
    refine g_icmp_ge (tgt := 30) hX dX7_sight_6 (by decide) (fun h6 => ?_) (fun h6 => ?_)
    · skip
      refine g_iload_n hX dX7_sight_30 rfl ?_
      subst hQ
      exact g_iret hX dX7_sight_31 (iR (by rw [hr, show t = 40 by have := hg.mp h6; omega]; rfl)) (rfl) rfl rfl
    · skip
      have ht : t < 40 := by
        rcases Nat.lt_or_ge t 40 with q | q
        · exact q
        · exact absurd (hg.mpr q) h6
      refine g_aload_n hX dX7_sight_9 rfl ?_
      refine g_iload_n hX dX7_sight_10 rfl ?_
      refine g_iload_n hX dX7_sight_11 rfl ?_
      refine g_iload_n hX dX7_sight_12 rfl ?_
      refine g_callRi hX dX7_sight_13 cw_X7_91 (ct_X7_white  (by first | with_reducible assumption | rfl) (by omega) (by omega)) 0 8 [0, 1] rfl rfl rfl rfl (by decide) rfl ⟨by decide, by decide⟩ (Nat.le_of_ble_eq_true rfl) (Nat.le_refl _) (Nat.le_refl _) ?_
      refine g_aload_n hX dX7_sight_16 rfl ?_
      refine g_iconst hX dX7_sight_17 kn_i_3 ?_
      refine g_callRi hX dX7_sight_18 cw_X7_65 (ct_X7_termOf  (by first | with_reducible assumption | rfl) (by omega)) 0 8 [0, 1] rfl rfl rfl rfl (by decide) rfl ⟨by decide, by decide⟩ (Nat.le_of_ble_eq_true rfl) (Nat.le_refl _) (Nat.le_refl _) ?_
      refine g_icmp_ge (tgt := 30) hX dX7_sight_21 (by decide) (fun h21 => ?_) (fun h21 => ?_)
      · skip
        refine g_iload_n hX dX7_sight_30 rfl ?_
        subst hQ
        exact g_iret hX dX7_sight_31 (iR (by rw [hr, show 40 - t = (40 - (t + 1)) + 1 by omega]; exact if_pos h21)) (rfl) rfl rfl
      · skip
        refine g_iinc (L' := [some (.ref a0), some (.int (nI c)), some (.int (nI d)), some (.int ((gv t) + 1))]) hX dX7_sight_24 rfl (by rfl) (by decide) rfl ?_
        refine g_goto (tgt := 3) hX dX7_sight_27 (by decide) ?_
        exact g_fin (ih3 (by omega) (by rw [hr, show 40 - t = (40 - (t + 1)) + 1 by omega]; exact if_neg h21)) (rfl) rfl ⟨rfl, rfl, rfl, rfl, trivial⟩
  exact g_fin (loop3 0 (by omega) rfl) (rfl) rfl ⟨rfl, rfl, rfl, rfl, trivial⟩
set_option maxRecDepth 100000 in
set_option maxHeartbeats 4000000 in
theorem ct_X7_above {l : Launch} {D : va_G} {a0 a1 a7 : Nat} {fs : List Value} {w q : Nat → Int32} {i j : Int32} (hf : fs[0]? = some (.ref a1)) (hg : fs[12]? = some (.ref a7)) : Cf l D yX7_above cX7_above 6 (some .int) 5 126 [.ref a0, .int i, .int j] [(a0, .inr (8, fs)), (a1, .inl (D.1 100, 3318, .inl w)), (a7, .inl (D.1 100, 16, .inl q))] (some (.int (aboveOf w q i j))) [(a0, .inr (8, fs)), (a1, .inl (D.1 100, 3318, .inl w)), (a7, .inl (D.1 100, 16, .inl q))] := by
  refine Ct.ofG (by decide) (Nat.le_of_ble_eq_true rfl) ?_
  intro X hX
  have hX : CX X l D RX7 "above" cX7_above 6 (some .int) 5 126 0 0 := hX
  show G X (QF X (some (.int (aboveOf w q i j))) [(a0, .inr (8, fs)), (a1, .inl (D.1 100, 3318, .inl w)), (a7, .inl (D.1 100, 16, .inl q))]) [(a0, .inr (8, fs)), (a1, .inl (D.1 100, 3318, .inl w)), (a7, .inl (D.1 100, 16, .inl q))] 0 0 0 [some (.ref a0), some (.int i), some (.int j), none, none, none] []
  generalize hQ : QF X (some (.int (aboveOf w q i j))) [(a0, .inr (8, fs)), (a1, .inl (D.1 100, 3318, .inl w)), (a7, .inl (D.1 100, 16, .inl q))] = Q
  refine g_aload_n hX dX7_above_0 rfl ?_
  refine g_iload_n hX dX7_above_1 rfl ?_
  refine g_iload_n hX dX7_above_2 rfl ?_
  refine g_callRi hX dX7_above_3 cw_X7_102 (ct_X7_windowOf  (by first | with_reducible assumption | rfl) (by first | with_reducible assumption | rfl)) 0 8 [0, 1, 2] rfl rfl rfl rfl (by decide) rfl ⟨by decide, by decide⟩ (Nat.le_of_ble_eq_true rfl) (Nat.le_refl _) (Nat.le_refl _) ?_
  refine g_istore_n (L' := [some (.ref a0), some (.int i), some (.int j), some (.int (windowOf w q i j)), none, none]) hX dX7_above_6 (by decide) rfl ?_
  refine g_iload_n hX dX7_above_7 rfl ?_
  refine g_if_le (tgt := 29) hX dX7_above_8 (by decide) (fun h8 => ?_) (fun h8 => ?_)
  · skip
    refine g_iconst hX dX7_above_29 kn_i_0 ?_
    refine g_istore (L' := [some (.ref a0), some (.int i), some (.int j), some (.int (windowOf w q i j)), some (.int (nI 0)), none]) hX dX7_above_30 (by decide) rfl ?_
    refine g_iconst hX dX7_above_32 kn_i_0 ?_
    refine g_istore (L' := [some (.ref a0), some (.int i), some (.int j), some (.int (windowOf w q i j)), some (.int (nI 0)), some (.int (nI 0))]) hX dX7_above_33 (by decide) rfl ?_
    have loop35 : ∀ k : Nat, k ≤ 64 → G X Q [(a0, .inr (8, fs)), (a1, .inl (D.1 100, 3318, .inl w)), (a7, .inl (D.1 100, 16, .inl q))] 0 0 35 [some (.ref a0), some (.int i), some (.int j), some (.int (windowOf w q i j)), some (.int (abTo w q i j k)), some (.int (nI k))] [] := by
      refine loopN 64 (fun k hh35 ih35 => ?_)
      refine g_iload hX dX7_above_35 rfl ?_
      refine g_bipush hX dX7_above_37 kn_b_64 ?_
      refine g_icmpN_ge (tgt := 93) hX dX7_above_39 (by decide) (by omega) (by omega) (fun h39 => ?_) (fun h39 => ?_)
      · skip
        obtain rfl : k = 64 := by omega
        refine g_iload hX dX7_above_93 rfl ?_
        subst hQ
        exact g_iret hX dX7_above_95 (iR (by unfold aboveOf; exact if_pos h8)) (rfl) rfl rfl
      · skip
        refine g_iload hX dX7_above_42 rfl ?_
        refine g_aload_n hX dX7_above_44 rfl ?_
        refine g_iload hX dX7_above_45 rfl ?_
        refine g_bipush hX dX7_above_47 kn_b_8 ?_
        refine g_idivN hX dX7_above_49 (by omega) (by omega) (by omega) ?_
        refine g_iload hX dX7_above_50 rfl ?_
        refine g_bipush hX dX7_above_52 kn_b_8 ?_
        refine g_iremN hX dX7_above_54 (by omega) (by omega) (by omega) ?_
        refine g_iload_n hX dX7_above_55 rfl ?_
        refine g_iload_n hX dX7_above_56 rfl ?_
        refine g_callRi hX dX7_above_57 cw_X7_94 (ct_X7_isIn  (by first | with_reducible assumption | rfl) (by first | with_reducible assumption | rfl) (by omega) (by omega)) 0 8 [0, 1, 2] rfl rfl rfl rfl (by decide) rfl ⟨by decide, by decide⟩ (Nat.le_of_ble_eq_true rfl) (Nat.le_refl _) (Nat.le_refl _) ?_
        have J60 : ∀ (v60_0 : Int32), (v60_0 = (if isInB w q (k / 8) (k % 8) i j then ((sight w (k / 8) (k % 8)) + (nI 100)) else (nI 0))) → G X Q [(a0, .inr (8, fs)), (a1, .inl (D.1 100, 3318, .inl w)), (a7, .inl (D.1 100, 16, .inl q))] 0 0 84 [some (.ref a0), some (.int i), some (.int j), some (.int (windowOf w q i j)), some (.int (abTo w q i j k)), some (.int (nI k))] [.int v60_0, .int (abTo w q i j k)] := by
          intro v60_0 ev60_0
          subst ev60_0
          refine g_iadd hX dX7_above_84 ?_
          refine g_istore (L' := [some (.ref a0), some (.int i), some (.int j), some (.int (windowOf w q i j)), some (.int ((abTo w q i j k) + (if isInB w q (k / 8) (k % 8) i j then ((sight w (k / 8) (k % 8)) + (nI 100)) else (nI 0)))), some (.int (nI k))]) hX dX7_above_85 (by decide) rfl ?_
          refine g_iincN (L' := [some (.ref a0), some (.int i), some (.int j), some (.int (windowOf w q i j)), some (.int ((abTo w q i j k) + (if isInB w q (k / 8) (k % 8) i j then ((sight w (k / 8) (k % 8)) + (nI 100)) else (nI 0)))), some (.int (nI (k + 1)))]) hX dX7_above_87 rfl (by decide) rfl ?_
          refine g_goto (tgt := 35) hX dX7_above_90 (by decide) ?_
          exact g_fin (ih35 (by omega) ) (rfl) rfl ⟨rfl, rfl, rfl, rfl, rfl, rfl, trivial⟩
        refine g_ifb_eq (tgt := 83) hX dX7_above_60 (by decide) (fun h60 => ?_) (fun h60 => ?_)
        · skip
          refine g_iconst hX dX7_above_83 kn_i_0 ?_
          exact g_to (J60 (nI 0) (if_bf h60).symm) ⟨rfl, rfl, rfl, rfl, rfl, rfl, trivial⟩
        · skip
          refine g_aload_n hX dX7_above_63 rfl ?_
          refine g_iload hX dX7_above_64 rfl ?_
          refine g_bipush hX dX7_above_66 kn_b_8 ?_
          refine g_idivN hX dX7_above_68 (by omega) (by omega) (by omega) ?_
          refine g_iload hX dX7_above_69 rfl ?_
          refine g_bipush hX dX7_above_71 kn_b_8 ?_
          refine g_iremN hX dX7_above_73 (by omega) (by omega) (by omega) ?_
          refine g_callRi hX dX7_above_74 cw_X7_108 (ct_X7_sight  (by first | with_reducible assumption | rfl) (by omega) (by omega)) 0 8 [0, 1] rfl rfl rfl rfl (by decide) rfl ⟨by decide, by decide⟩ (Nat.le_of_ble_eq_true rfl) (Nat.le_refl _) (Nat.le_refl _) ?_
          refine g_bipush hX dX7_above_77 kn_b_100 ?_
          refine g_iadd hX dX7_above_79 ?_
          refine g_goto (tgt := 84) hX dX7_above_80 (by decide) ?_
          exact g_to (J60 ((sight w (k / 8) (k % 8)) + (nI 100)) (if_bt h60).symm) ⟨rfl, rfl, rfl, rfl, rfl, rfl, trivial⟩
    exact g_fin (loop35 0 (by omega) ) (rfl) rfl ⟨rfl, rfl, rfl, rfl, rfl, rfl, trivial⟩
  · skip
    refine g_aload_n hX dX7_above_11 rfl ?_
    refine g_iload_n hX dX7_above_12 rfl ?_
    refine g_iload_n hX dX7_above_13 rfl ?_
    refine g_iload_n hX dX7_above_14 rfl ?_
    refine g_iload_n hX dX7_above_15 rfl ?_
    refine g_iconst hX dX7_above_16 kn_i_2 ?_
    refine g_aload_n hX dX7_above_17 rfl ?_
    refine g_iconst hX dX7_above_18 kn_i_1 ?_
    refine g_callRi hX dX7_above_19 cw_X7_65 (ct_X7_termOf  (by first | with_reducible assumption | rfl) (by omega)) 0 8 [0, 1] rfl rfl rfl rfl (by decide) rfl ⟨by decide, by decide⟩ (Nat.le_of_ble_eq_true rfl) (Nat.le_refl _) (Nat.le_refl _) ?_
    refine g_imul hX dX7_above_22 ?_
    refine g_iadd hX dX7_above_23 ?_
    refine g_iconst hX dX7_above_24 kn_i_1 ?_
    refine g_callRi hX dX7_above_25 cw_X7_98 (ct_X7_window_1  (by first | with_reducible assumption | rfl) (by first | with_reducible assumption | rfl)) 0 8 [0, 1, 2] rfl rfl rfl rfl (by decide) rfl ⟨by decide, by decide⟩ (Nat.le_of_ble_eq_true rfl) (Nat.le_refl _) (Nat.le_refl _) ?_
    subst hQ
    exact g_iret hX dX7_above_28 (iR (by unfold aboveOf; exact if_neg h8)) (rfl) rfl rfl
set_option maxRecDepth 100000 in
set_option maxHeartbeats 4000000 in
theorem ct_X7_below {l : Launch} {D : va_G} {a0 a1 a7 : Nat} {fs : List Value} {w q : Nat → Int32} {i j : Int32} (hf : fs[0]? = some (.ref a1)) (hg : fs[12]? = some (.ref a7)) : Cf l D yX7_below cX7_below 3 (some .int) 6 149 [.ref a0, .int i, .int j] [(a0, .inr (8, fs)), (a1, .inl (D.1 100, 3318, .inl w)), (a7, .inl (D.1 100, 16, .inl q))] (some (.int (belowOf w q i j))) [(a0, .inr (8, fs)), (a1, .inl (D.1 100, 3318, .inl w)), (a7, .inl (D.1 100, 16, .inl q))] := by
  refine Ct.ofG (by decide) (Nat.le_of_ble_eq_true rfl) ?_
  intro X hX
  have hX : CX X l D RX7 "below" cX7_below 3 (some .int) 6 149 0 0 := hX
  show G X (QF X (some (.int (belowOf w q i j))) [(a0, .inr (8, fs)), (a1, .inl (D.1 100, 3318, .inl w)), (a7, .inl (D.1 100, 16, .inl q))]) [(a0, .inr (8, fs)), (a1, .inl (D.1 100, 3318, .inl w)), (a7, .inl (D.1 100, 16, .inl q))] 0 0 0 [some (.ref a0), some (.int i), some (.int j)] []
  generalize hQ : QF X (some (.int (belowOf w q i j))) [(a0, .inr (8, fs)), (a1, .inl (D.1 100, 3318, .inl w)), (a7, .inl (D.1 100, 16, .inl q))] = Q
  refine g_aload_n hX dX7_below_0 rfl ?_
  refine g_iload_n hX dX7_below_1 rfl ?_
  refine g_iload_n hX dX7_below_2 rfl ?_
  refine g_callRi hX dX7_below_3 cw_X7_111 (ct_X7_keptIn  (by first | with_reducible assumption | rfl) (by first | with_reducible assumption | rfl)) 0 8 [0, 1, 2] rfl rfl rfl rfl (by decide) rfl ⟨by decide, by decide⟩ (Nat.le_of_ble_eq_true rfl) (Nat.le_refl _) (Nat.le_refl _) ?_
  have J6 : ∀ (v6_0 : Int32), (v6_0 = (if (keptOf w q i j) ≤ 0 then (prC w q i j 64) else (keptOf w q i j))) → G X Q [(a0, .inr (8, fs)), (a1, .inl (D.1 100, 3318, .inl w)), (a7, .inl (D.1 100, 16, .inl q))] 0 0 24 [some (.ref a0), some (.int i), some (.int j)] [.int v6_0] := by
    intro v6_0 ev6_0
    subst ev6_0
    subst hQ
    exact g_iret hX dX7_below_24 (rfl) (rfl) rfl rfl
  refine g_if_le (tgt := 18) hX dX7_below_6 (by decide) (fun h6 => ?_) (fun h6 => ?_)
  · skip
    refine g_aload_n hX dX7_below_18 rfl ?_
    refine g_iload_n hX dX7_below_19 rfl ?_
    refine g_iload_n hX dX7_below_20 rfl ?_
    refine g_callRi hX dX7_below_21 cw_X7_114 (ct_X7_pairsIn  (by first | with_reducible assumption | rfl) (by first | with_reducible assumption | rfl)) 0 8 [0, 1, 2] rfl rfl rfl rfl (by decide) rfl ⟨by decide, by decide⟩ (Nat.le_of_ble_eq_true rfl) (Nat.le_refl _) (Nat.le_refl _) ?_
    exact g_to (J6 (prC w q i j 64) (if_pos h6).symm) ⟨rfl, rfl, rfl, trivial⟩
  · skip
    refine g_aload_n hX dX7_below_9 rfl ?_
    refine g_iload_n hX dX7_below_10 rfl ?_
    refine g_iload_n hX dX7_below_11 rfl ?_
    refine g_callRi hX dX7_below_12 cw_X7_111 (ct_X7_keptIn  (by first | with_reducible assumption | rfl) (by first | with_reducible assumption | rfl)) 0 8 [0, 1, 2] rfl rfl rfl rfl (by decide) rfl ⟨by decide, by decide⟩ (Nat.le_of_ble_eq_true rfl) (Nat.le_refl _) (Nat.le_refl _) ?_
    refine g_goto (tgt := 24) hX dX7_below_15 (by decide) ?_
    exact g_to (J6 (keptOf w q i j) (if_neg h6).symm) ⟨rfl, rfl, rfl, trivial⟩
set_option maxRecDepth 100000 in
set_option maxHeartbeats 4000000 in
theorem ct_X7_cellGap {l : Launch} {D : va_G} {a0 a1 a7 : Nat} {fs : List Value} {w q : Nat → Int32} {i j : Int32} (hf : fs[0]? = some (.ref a1)) (hg : fs[12]? = some (.ref a7)) (hb : ¬ nI 2 * belowOf w q i j = 0) : Cf l D yX7_cellGap cX7_cellGap 3 (some .int) 7 171 [.ref a0, .int i, .int j] [(a0, .inr (8, fs)), (a1, .inl (D.1 100, 3318, .inl w)), (a7, .inl (D.1 100, 16, .inl q))] (some (.int (cellGap w q i j))) [(a0, .inr (8, fs)), (a1, .inl (D.1 100, 3318, .inl w)), (a7, .inl (D.1 100, 16, .inl q))] := by
  refine Ct.ofG (by decide) (Nat.le_of_ble_eq_true rfl) ?_
  intro X hX
  have hX : CX X l D RX7 "cellGap" cX7_cellGap 3 (some .int) 7 171 0 0 := hX
  show G X (QF X (some (.int (cellGap w q i j))) [(a0, .inr (8, fs)), (a1, .inl (D.1 100, 3318, .inl w)), (a7, .inl (D.1 100, 16, .inl q))]) [(a0, .inr (8, fs)), (a1, .inl (D.1 100, 3318, .inl w)), (a7, .inl (D.1 100, 16, .inl q))] 0 0 0 [some (.ref a0), some (.int i), some (.int j)] []
  generalize hQ : QF X (some (.int (cellGap w q i j))) [(a0, .inr (8, fs)), (a1, .inl (D.1 100, 3318, .inl w)), (a7, .inl (D.1 100, 16, .inl q))] = Q
  refine g_iconst hX dX7_cellGap_0 kn_i_2 ?_
  refine g_aload_n hX dX7_cellGap_1 rfl ?_
  refine g_iload_n hX dX7_cellGap_2 rfl ?_
  refine g_iload_n hX dX7_cellGap_3 rfl ?_
  refine g_callRi hX dX7_cellGap_4 cw_X7_117 (ct_X7_above  (by first | with_reducible assumption | rfl) (by first | with_reducible assumption | rfl)) 0 8 [0, 1, 2] rfl rfl rfl rfl (by decide) rfl ⟨by decide, by decide⟩ (Nat.le_of_ble_eq_true rfl) (Nat.le_refl _) (Nat.le_refl _) ?_
  refine g_imul hX dX7_cellGap_7 ?_
  refine g_aload_n hX dX7_cellGap_8 rfl ?_
  refine g_iload_n hX dX7_cellGap_9 rfl ?_
  refine g_iload_n hX dX7_cellGap_10 rfl ?_
  refine g_callRi hX dX7_cellGap_11 cw_X7_120 (ct_X7_below  (by first | with_reducible assumption | rfl) (by first | with_reducible assumption | rfl)) 0 8 [0, 1, 2] rfl rfl rfl rfl (by decide) rfl ⟨by decide, by decide⟩ (Nat.le_of_ble_eq_true rfl) (Nat.le_refl _) (Nat.le_refl _) ?_
  refine g_iadd hX dX7_cellGap_14 ?_
  refine g_iconst hX dX7_cellGap_15 kn_i_2 ?_
  refine g_aload_n hX dX7_cellGap_16 rfl ?_
  refine g_iload_n hX dX7_cellGap_17 rfl ?_
  refine g_iload_n hX dX7_cellGap_18 rfl ?_
  refine g_callRi hX dX7_cellGap_19 cw_X7_120 (ct_X7_below  (by first | with_reducible assumption | rfl) (by first | with_reducible assumption | rfl)) 0 8 [0, 1, 2] rfl rfl rfl rfl (by decide) rfl ⟨by decide, by decide⟩ (Nat.le_of_ble_eq_true rfl) (Nat.le_refl _) (Nat.le_refl _) ?_
  refine g_imul hX dX7_cellGap_22 ?_
  refine g_idiv hX dX7_cellGap_23 hb ?_
  subst hQ
  exact g_iret hX dX7_cellGap_24 (rfl) (rfl) rfl rfl
set_option maxRecDepth 100000 in
set_option maxHeartbeats 4000000 in
theorem ct_X7_gapOf {l : Launch} {D : va_G} {a0 a1 a7 : Nat} {fs : List Value} {w q : Nat → Int32} {c d : Nat} (hf : fs[0]? = some (.ref a1)) (hg : fs[12]? = some (.ref a7)) (hc : c < 8) (hd : d < 8) (hb : ¬ nI 2 * belowOf w q (q (8 + c)) (q d) = 0) : Cf l D yX7_gapOf cX7_gapOf 3 (some .int) 8 193 [.ref a0, .int (nI c), .int (nI d)] [(a0, .inr (8, fs)), (a1, .inl (D.1 100, 3318, .inl w)), (a7, .inl (D.1 100, 16, .inl q))] (some (.int (gapOf w q c d))) [(a0, .inr (8, fs)), (a1, .inl (D.1 100, 3318, .inl w)), (a7, .inl (D.1 100, 16, .inl q))] := by
  refine Ct.ofG (by decide) (Nat.le_of_ble_eq_true rfl) ?_
  intro X hX
  have hX : CX X l D RX7 "gapOf" cX7_gapOf 3 (some .int) 8 193 0 0 := hX
  show G X (QF X (some (.int (gapOf w q c d))) [(a0, .inr (8, fs)), (a1, .inl (D.1 100, 3318, .inl w)), (a7, .inl (D.1 100, 16, .inl q))]) [(a0, .inr (8, fs)), (a1, .inl (D.1 100, 3318, .inl w)), (a7, .inl (D.1 100, 16, .inl q))] 0 0 0 [some (.ref a0), some (.int (nI c)), some (.int (nI d))] []
  generalize hQ : QF X (some (.int (gapOf w q c d))) [(a0, .inr (8, fs)), (a1, .inl (D.1 100, 3318, .inl w)), (a7, .inl (D.1 100, 16, .inl q))] = Q
  refine g_aload_n hX dX7_gapOf_0 rfl ?_
  refine g_iload_n hX dX7_gapOf_1 rfl ?_
  refine g_iload_n hX dX7_gapOf_2 rfl ?_
  refine g_callRi hX dX7_gapOf_3 cw_X7_123 (ct_X7_isStrange  (by first | with_reducible assumption | rfl) (by first | with_reducible assumption | rfl) (by omega) (by omega)) 0 8 [0, 1, 2] rfl rfl rfl rfl (by decide) rfl ⟨by decide, by decide⟩ (Nat.le_of_ble_eq_true rfl) (Nat.le_refl _) (Nat.le_refl _) ?_
  have J6 : ∀ (v6_0 : Int32), (v6_0 = (if strB w q c d then (w (94 + 8 * c + d)) else (cellGap w q (q (8 + c)) (q d)))) → G X Q [(a0, .inr (8, fs)), (a1, .inl (D.1 100, 3318, .inl w)), (a7, .inl (D.1 100, 16, .inl q))] 0 0 37 [some (.ref a0), some (.int (nI c)), some (.int (nI d))] [.int v6_0] := by
    intro v6_0 ev6_0
    subst ev6_0
    subst hQ
    exact g_iret hX dX7_gapOf_37 (rfl) (rfl) rfl rfl
  refine g_ifb_eq (tgt := 18) hX dX7_gapOf_6 (by decide) (fun h6 => ?_) (fun h6 => ?_)
  · skip
    refine g_aload_n hX dX7_gapOf_18 rfl ?_
    refine g_aload_n hX dX7_gapOf_19 rfl ?_
    refine g_getf hX dX7_gapOf_20 fk_X7_32 0 rfl hg ?_
    refine g_bipush hX dX7_gapOf_23 kn_b_8 ?_
    refine g_iload_n hX dX7_gapOf_25 rfl ?_
    refine g_iaddN hX dX7_gapOf_26 ?_
    refine g_iald hX dX7_gapOf_27 2 rfl (by decide) (by omega) ?_
    refine g_aload_n hX dX7_gapOf_28 rfl ?_
    refine g_getf hX dX7_gapOf_29 fk_X7_32 0 rfl hg ?_
    refine g_iload_n hX dX7_gapOf_32 rfl ?_
    refine g_iald hX dX7_gapOf_33 2 rfl (by decide) (by omega) ?_
    refine g_callRi hX dX7_gapOf_34 cw_X7_126 (ct_X7_cellGap  (by first | with_reducible assumption | rfl) (by first | with_reducible assumption | rfl) (by first | with_reducible assumption | assumption)) 0 8 [0, 1, 2] rfl rfl rfl rfl (by decide) rfl ⟨by decide, by decide⟩ (Nat.le_of_ble_eq_true rfl) (Nat.le_refl _) (Nat.le_refl _) ?_
    exact g_to (J6 (cellGap w q (q (8 + c)) (q d)) (if_bf h6).symm) ⟨rfl, rfl, rfl, trivial⟩
  · skip
    refine g_aload_n hX dX7_gapOf_9 rfl ?_
    refine g_iload_n hX dX7_gapOf_10 rfl ?_
    refine g_iload_n hX dX7_gapOf_11 rfl ?_
    refine g_callRi hX dX7_gapOf_12 cw_X7_105 (ct_X7_judgedOf  (by first | with_reducible assumption | rfl) (by omega) (by omega)) 0 8 [0, 1] rfl rfl rfl rfl (by decide) rfl ⟨by decide, by decide⟩ (Nat.le_of_ble_eq_true rfl) (Nat.le_refl _) (Nat.le_refl _) ?_
    refine g_goto (tgt := 37) hX dX7_gapOf_15 (by decide) ?_
    exact g_to (J6 (w (94 + 8 * c + d)) (if_bt h6).symm) ⟨rfl, rfl, rfl, trivial⟩
set_option maxRecDepth 100000 in
set_option maxHeartbeats 4000000 in
theorem ct_X7_divisor {l : Launch} {D : va_G} {a b : Nat} (ha : a < 2147483648) (hb : b < 2147483648) : Cf l D yX7_divisor cX7_divisor 5 (some .int) 0 0 [.int (nI a), .int (nI b)] [] (some (.int (nI (Nat.gcd a b)))) [] := by
  refine Ct.ofG (by decide) (Nat.le_of_ble_eq_true rfl) ?_
  intro X hX
  have hX : CX X l D RX7 "divisor" cX7_divisor 5 (some .int) 0 0 0 0 := hX
  show G X (QF X (some (.int (nI (Nat.gcd a b)))) []) [] 0 0 0 [some (.int (nI a)), some (.int (nI b)), none, none, none] []
  generalize hQ : QF X (some (.int (nI (Nat.gcd a b)))) [] = Q
  refine g_iload_n hX dX7_divisor_0 rfl ?_
  refine g_istore_n (L' := [some (.int (nI a)), some (.int (nI b)), some (.int (nI a)), none, none]) hX dX7_divisor_1 (by decide) rfl ?_
  refine g_iload_n hX dX7_divisor_2 rfl ?_
  refine g_istore_n (L' := [some (.int (nI a)), some (.int (nI b)), some (.int (nI a)), some (.int (nI b)), none]) hX dX7_divisor_3 (by decide) rfl ?_
  have loop4 : ∀ z : Nat × Nat, match z with | (x, y) => (x < 2147483648) → (y < 2147483648) → (Nat.gcd a b = Nat.gcd x y) → G X Q [] 0 0 4 [some (.int (nI a)), some (.int (nI b)), some (.int (nI x)), some (.int (nI y)), none] [] := by
    refine loopM (fun z : Nat × Nat => match z with | (x, y) => y) (fun z ih4 => ?_)
    obtain ⟨x, y⟩ := z
    intro hx hy hr
    refine g_iload_n hX dX7_divisor_4 rfl ?_
    refine g_ifN_eq (tgt := 21) hX dX7_divisor_5 (by decide) (by omega) (fun h5 => ?_) (fun h5 => ?_)
    · skip
      refine g_iload_n hX dX7_divisor_21 rfl ?_
      subst hQ
      exact g_iret hX dX7_divisor_22 (iR (by rw [hr]; subst h5; rw [Nat.gcd_zero_right])) (rfl) rfl rfl
    · skip
      refine g_iload_n hX dX7_divisor_8 rfl ?_
      refine g_iload_n hX dX7_divisor_9 rfl ?_
      refine g_iremN hX dX7_divisor_10 (by omega) (by omega) (by omega) ?_
      refine g_istore (L' := [some (.int (nI a)), some (.int (nI b)), some (.int (nI x)), some (.int (nI y)), some (.int (nI (x % y)))]) hX dX7_divisor_11 (by decide) rfl ?_
      refine g_iload_n hX dX7_divisor_13 rfl ?_
      refine g_istore_n (L' := [some (.int (nI a)), some (.int (nI b)), some (.int (nI y)), some (.int (nI y)), some (.int (nI (x % y)))]) hX dX7_divisor_14 (by decide) rfl ?_
      refine g_iload hX dX7_divisor_15 rfl ?_
      refine g_istore_n (L' := [some (.int (nI a)), some (.int (nI b)), some (.int (nI y)), some (.int (nI (x % y))), some (.int (nI (x % y)))]) hX dX7_divisor_17 (by decide) rfl ?_
      refine g_goto (tgt := 4) hX dX7_divisor_18 (by decide) ?_
      exact g_fin (ih4 (y, x % y) (Nat.mod_lt x (by omega)) hy (Nat.lt_of_le_of_lt (Nat.mod_le x y) hx) (by rw [hr, Nat.gcd_comm x y]; exact (Nat.gcd_rec y x).trans (Nat.gcd_comm _ _))) (rfl) rfl ⟨rfl, rfl, rfl, rfl, trivial⟩
  exact g_fin (loop4 (a, b) ha hb rfl) (rfl) rfl ⟨rfl, rfl, rfl, rfl, trivial⟩
set_option maxRecDepth 100000 in
set_option maxHeartbeats 4000000 in
theorem ct_X7_judgedMany {l : Launch} {D : va_G} {a0 a1 : Nat} {fs : List Value} {w : Nat → Int32} (hf : fs[0]? = some (.ref a1)) : Cf l D yX7_judgedMany cX7_judgedMany 3 (some .int) 0 0 [.ref a0] [(a0, .inr (8, fs)), (a1, .inl (D.1 100, 3318, .inl w))] (some (.int (jmTo w 64))) [(a0, .inr (8, fs)), (a1, .inl (D.1 100, 3318, .inl w))] := by
  refine Ct.ofG (by decide) (Nat.le_of_ble_eq_true rfl) ?_
  intro X hX
  have hX : CX X l D RX7 "judgedMany" cX7_judgedMany 3 (some .int) 0 0 0 0 := hX
  show G X (QF X (some (.int (jmTo w 64))) [(a0, .inr (8, fs)), (a1, .inl (D.1 100, 3318, .inl w))]) [(a0, .inr (8, fs)), (a1, .inl (D.1 100, 3318, .inl w))] 0 0 0 [some (.ref a0), none, none] []
  generalize hQ : QF X (some (.int (jmTo w 64))) [(a0, .inr (8, fs)), (a1, .inl (D.1 100, 3318, .inl w))] = Q
  refine g_iconst hX dX7_judgedMany_0 kn_i_0 ?_
  refine g_istore_n (L' := [some (.ref a0), some (.int (nI 0)), none]) hX dX7_judgedMany_1 (by decide) rfl ?_
  refine g_iconst hX dX7_judgedMany_2 kn_i_0 ?_
  refine g_istore_n (L' := [some (.ref a0), some (.int (nI 0)), some (.int (nI 0))]) hX dX7_judgedMany_3 (by decide) rfl ?_
  have loop4 : ∀ k : Nat, k ≤ 64 → G X Q [(a0, .inr (8, fs)), (a1, .inl (D.1 100, 3318, .inl w))] 0 0 4 [some (.ref a0), some (.int (jmTo w k)), some (.int (nI k))] [] := by
    refine loopN 64 (fun k hh4 ih4 => ?_)
    refine g_iload_n hX dX7_judgedMany_4 rfl ?_
    refine g_bipush hX dX7_judgedMany_5 kn_b_64 ?_
    refine g_icmpN_ge (tgt := 36) hX dX7_judgedMany_7 (by decide) (by omega) (by omega) (fun h7 => ?_) (fun h7 => ?_)
    · skip
      obtain rfl : k = 64 := by omega
      refine g_iload_n hX dX7_judgedMany_36 rfl ?_
      subst hQ
      exact g_iret hX dX7_judgedMany_37 (rfl) (rfl) rfl rfl
    · skip
      refine g_iload_n hX dX7_judgedMany_10 rfl ?_
      refine g_aload_n hX dX7_judgedMany_11 rfl ?_
      refine g_getf hX dX7_judgedMany_12 fk_X7_7 0 rfl hf ?_
      refine g_bipush hX dX7_judgedMany_15 kn_b_94 ?_
      refine g_iload_n hX dX7_judgedMany_17 rfl ?_
      refine g_iaddN hX dX7_judgedMany_18 ?_
      refine g_iald hX dX7_judgedMany_19 1 rfl (by decide) (by omega) ?_
      have J20 : ∀ (v20_0 : Bool), (v20_0 = (!(decide ((w (94 + k)) ≤ 0)))) → G X Q [(a0, .inr (8, fs)), (a1, .inl (D.1 100, 3318, .inl w))] 0 0 28 [some (.ref a0), some (.int (jmTo w k)), some (.int (nI k))] [.int (bI v20_0), .int (jmTo w k)] := by
        intro v20_0 ev20_0
        subst ev20_0
        refine g_iadd hX dX7_judgedMany_28 ?_
        refine g_istore_n (L' := [some (.ref a0), some (.int ((jmTo w k) + (bI (!(decide ((w (94 + k)) ≤ 0)))))), some (.int (nI k))]) hX dX7_judgedMany_29 (by decide) rfl ?_
        refine g_iincN (L' := [some (.ref a0), some (.int ((jmTo w k) + (bI (!(decide ((w (94 + k)) ≤ 0)))))), some (.int (nI (k + 1)))]) hX dX7_judgedMany_30 rfl (by decide) rfl ?_
        refine g_goto (tgt := 4) hX dX7_judgedMany_33 (by decide) ?_
        exact g_fin (ih4 (by omega) ) (rfl) rfl ⟨rfl, rfl, rfl, trivial⟩
      refine g_if_le (tgt := 27) hX dX7_judgedMany_20 (by decide) (fun h20 => ?_) (fun h20 => ?_)
      · skip
        refine g_iconst hX dX7_judgedMany_27 kn_i_0 ?_
        refine g_top (v' := bI false) rfl ?_
        exact g_to (J20 false (by rw [(decide_eq_true h20)] <;> rfl)) ⟨rfl, rfl, rfl, trivial⟩
      · skip
        refine g_iconst hX dX7_judgedMany_23 kn_i_1 ?_
        refine g_goto (tgt := 28) hX dX7_judgedMany_24 (by decide) ?_
        refine g_top (v' := bI true) rfl ?_
        exact g_to (J20 true (by rw [(decide_eq_false h20)] <;> rfl)) ⟨rfl, rfl, rfl, trivial⟩
  exact g_fin (loop4 0 (by omega) ) (rfl) rfl ⟨rfl, rfl, rfl, trivial⟩
set_option maxRecDepth 100000 in
set_option maxHeartbeats 4000000 in
theorem ct_X7_strangeMany {l : Launch} {D : va_G} {a0 a1 a7 : Nat} {fs : List Value} {w q : Nat → Int32} (hf : fs[0]? = some (.ref a1)) (hg : fs[12]? = some (.ref a7)) : Cf l D yX7_strangeMany cX7_strangeMany 3 (some .int) 6 149 [.ref a0] [(a0, .inr (8, fs)), (a1, .inl (D.1 100, 3318, .inl w)), (a7, .inl (D.1 100, 16, .inl q))] (some (.int (smTo w q 64))) [(a0, .inr (8, fs)), (a1, .inl (D.1 100, 3318, .inl w)), (a7, .inl (D.1 100, 16, .inl q))] := by
  refine Ct.ofG (by decide) (Nat.le_of_ble_eq_true rfl) ?_
  intro X hX
  have hX : CX X l D RX7 "strangeMany" cX7_strangeMany 3 (some .int) 6 149 0 0 := hX
  show G X (QF X (some (.int (smTo w q 64))) [(a0, .inr (8, fs)), (a1, .inl (D.1 100, 3318, .inl w)), (a7, .inl (D.1 100, 16, .inl q))]) [(a0, .inr (8, fs)), (a1, .inl (D.1 100, 3318, .inl w)), (a7, .inl (D.1 100, 16, .inl q))] 0 0 0 [some (.ref a0), none, none] []
  generalize hQ : QF X (some (.int (smTo w q 64))) [(a0, .inr (8, fs)), (a1, .inl (D.1 100, 3318, .inl w)), (a7, .inl (D.1 100, 16, .inl q))] = Q
  refine g_iconst hX dX7_strangeMany_0 kn_i_0 ?_
  refine g_istore_n (L' := [some (.ref a0), some (.int (nI 0)), none]) hX dX7_strangeMany_1 (by decide) rfl ?_
  refine g_iconst hX dX7_strangeMany_2 kn_i_0 ?_
  refine g_istore_n (L' := [some (.ref a0), some (.int (nI 0)), some (.int (nI 0))]) hX dX7_strangeMany_3 (by decide) rfl ?_
  have loop4 : ∀ k : Nat, k ≤ 64 → G X Q [(a0, .inr (8, fs)), (a1, .inl (D.1 100, 3318, .inl w)), (a7, .inl (D.1 100, 16, .inl q))] 0 0 4 [some (.ref a0), some (.int (smTo w q k)), some (.int (nI k))] [] := by
    refine loopN 64 (fun k hh4 ih4 => ?_)
    refine g_iload_n hX dX7_strangeMany_4 rfl ?_
    refine g_bipush hX dX7_strangeMany_5 kn_b_64 ?_
    refine g_icmpN_ge (tgt := 51) hX dX7_strangeMany_7 (by decide) (by omega) (by omega) (fun h7 => ?_) (fun h7 => ?_)
    · skip
      obtain rfl : k = 64 := by omega
      refine g_iload_n hX dX7_strangeMany_51 rfl ?_
      subst hQ
      exact g_iret hX dX7_strangeMany_52 (rfl) (rfl) rfl rfl
    · skip
      refine g_iload_n hX dX7_strangeMany_10 rfl ?_
      refine g_aload_n hX dX7_strangeMany_11 rfl ?_
      refine g_getf hX dX7_strangeMany_12 fk_X7_7 0 rfl hf ?_
      refine g_bipush hX dX7_strangeMany_15 kn_b_94 ?_
      refine g_iload_n hX dX7_strangeMany_17 rfl ?_
      refine g_iaddN hX dX7_strangeMany_18 ?_
      refine g_iald hX dX7_strangeMany_19 1 rfl (by decide) (by omega) ?_
      have J20 : ∀ (v20_0 : Bool), (v20_0 = (!(decide ((w (94 + k)) ≤ 0)) && (strB w q (k / 8) (k % 8)))) → G X Q [(a0, .inr (8, fs)), (a1, .inl (D.1 100, 3318, .inl w)), (a7, .inl (D.1 100, 16, .inl q))] 0 0 43 [some (.ref a0), some (.int (smTo w q k)), some (.int (nI k))] [.int (bI v20_0), .int (smTo w q k)] := by
        intro v20_0 ev20_0
        subst ev20_0
        refine g_iadd hX dX7_strangeMany_43 ?_
        refine g_istore_n (L' := [some (.ref a0), some (.int ((smTo w q k) + (bI (!(decide ((w (94 + k)) ≤ 0)) && (strB w q (k / 8) (k % 8)))))), some (.int (nI k))]) hX dX7_strangeMany_44 (by decide) rfl ?_
        refine g_iincN (L' := [some (.ref a0), some (.int ((smTo w q k) + (bI (!(decide ((w (94 + k)) ≤ 0)) && (strB w q (k / 8) (k % 8)))))), some (.int (nI (k + 1)))]) hX dX7_strangeMany_45 rfl (by decide) rfl ?_
        refine g_goto (tgt := 4) hX dX7_strangeMany_48 (by decide) ?_
        exact g_fin (ih4 (by omega) ) (rfl) rfl ⟨rfl, rfl, rfl, trivial⟩
      refine g_if_le (tgt := 42) hX dX7_strangeMany_20 (by decide) (fun h20 => ?_) (fun h20 => ?_)
      · skip
        refine g_iconst hX dX7_strangeMany_42 kn_i_0 ?_
        refine g_top (v' := bI false) rfl ?_
        exact g_to (J20 false (by rw [(decide_eq_true h20)] <;> rfl)) ⟨rfl, rfl, rfl, trivial⟩
      · skip
        refine g_aload_n hX dX7_strangeMany_23 rfl ?_
        refine g_iload_n hX dX7_strangeMany_24 rfl ?_
        refine g_bipush hX dX7_strangeMany_25 kn_b_8 ?_
        refine g_idivN hX dX7_strangeMany_27 (by omega) (by omega) (by omega) ?_
        refine g_iload_n hX dX7_strangeMany_28 rfl ?_
        refine g_bipush hX dX7_strangeMany_29 kn_b_8 ?_
        refine g_iremN hX dX7_strangeMany_31 (by omega) (by omega) (by omega) ?_
        refine g_callRi hX dX7_strangeMany_32 cw_X7_123 (ct_X7_isStrange  (by first | with_reducible assumption | rfl) (by first | with_reducible assumption | rfl) (by omega) (by omega)) 0 8 [0, 1, 2] rfl rfl rfl rfl (by decide) rfl ⟨by decide, by decide⟩ (Nat.le_of_ble_eq_true rfl) (Nat.le_refl _) (Nat.le_refl _) ?_
        have J35 : ∀ (v35_0 : Bool), (v35_0 = (strB w q (k / 8) (k % 8))) → G X Q [(a0, .inr (8, fs)), (a1, .inl (D.1 100, 3318, .inl w)), (a7, .inl (D.1 100, 16, .inl q))] 0 0 43 [some (.ref a0), some (.int (smTo w q k)), some (.int (nI k))] [.int (bI v35_0), .int (smTo w q k)] := by
          intro v35_0 ev35_0
          subst ev35_0
          exact g_to (J20 (strB w q (k / 8) (k % 8)) (by rw [(decide_eq_false h20)] <;> rfl)) ⟨rfl, rfl, rfl, trivial⟩
        refine g_ifb_eq (tgt := 42) hX dX7_strangeMany_35 (by decide) (fun h35 => ?_) (fun h35 => ?_)
        · skip
          refine g_iconst hX dX7_strangeMany_42 kn_i_0 ?_
          refine g_top (v' := bI false) rfl ?_
          exact g_to (J35 false (by rw [h35] <;> rfl)) ⟨rfl, rfl, rfl, trivial⟩
        · skip
          refine g_iconst hX dX7_strangeMany_38 kn_i_1 ?_
          refine g_goto (tgt := 43) hX dX7_strangeMany_39 (by decide) ?_
          refine g_top (v' := bI true) rfl ?_
          exact g_to (J35 true (by rw [h35] <;> rfl)) ⟨rfl, rfl, rfl, trivial⟩
  exact g_fin (loop4 0 (by omega) ) (rfl) rfl ⟨rfl, rfl, rfl, trivial⟩
set_option maxRecDepth 100000 in
set_option maxHeartbeats 4000000 in
theorem ct_X7_misses {l : Launch} {D : va_G} {a0 a1 a7 : Nat} {fs : List Value} {w q : Nat → Int32} (hf : fs[0]? = some (.ref a1)) (hg : fs[12]? = some (.ref a7)) (hb : ∀ k, k < 64 → ¬ w (94 + k) ≤ 0 → ¬ nI 2 * belowOf w q (q (8 + k / 8)) (q (k % 8)) = 0) : Cf l D yX7_misses cX7_misses 4 (some .int) 9 215 [.ref a0] [(a0, .inr (8, fs)), (a1, .inl (D.1 100, 3318, .inl w)), (a7, .inl (D.1 100, 16, .inl q))] (some (.int (miTo w q 64))) [(a0, .inr (8, fs)), (a1, .inl (D.1 100, 3318, .inl w)), (a7, .inl (D.1 100, 16, .inl q))] := by
  refine Ct.ofG (by decide) (Nat.le_of_ble_eq_true rfl) ?_
  intro X hX
  have hX : CX X l D RX7 "misses" cX7_misses 4 (some .int) 9 215 0 0 := hX
  show G X (QF X (some (.int (miTo w q 64))) [(a0, .inr (8, fs)), (a1, .inl (D.1 100, 3318, .inl w)), (a7, .inl (D.1 100, 16, .inl q))]) [(a0, .inr (8, fs)), (a1, .inl (D.1 100, 3318, .inl w)), (a7, .inl (D.1 100, 16, .inl q))] 0 0 0 [some (.ref a0), none, none, none] []
  generalize hQ : QF X (some (.int (miTo w q 64))) [(a0, .inr (8, fs)), (a1, .inl (D.1 100, 3318, .inl w)), (a7, .inl (D.1 100, 16, .inl q))] = Q
  refine g_iconst hX dX7_misses_0 kn_i_0 ?_
  refine g_istore_n (L' := [some (.ref a0), some (.int (nI 0)), none, none]) hX dX7_misses_1 (by decide) rfl ?_
  refine g_iconst hX dX7_misses_2 kn_i_0 ?_
  refine g_istore_n (L' := [some (.ref a0), some (.int (nI 0)), some (.int (nI 0)), none]) hX dX7_misses_3 (by decide) rfl ?_
  have loop4 : ∀ k : Nat, k ≤ 64 → G X Q [(a0, .inr (8, fs)), (a1, .inl (D.1 100, 3318, .inl w)), (a7, .inl (D.1 100, 16, .inl q))] 0 0 4 [some (.ref a0), some (.int (miTo w q k)), some (.int (nI k)), none] [] := by
    refine loopN 64 (fun k hh4 ih4 => ?_)
    refine g_iload_n hX dX7_misses_4 rfl ?_
    refine g_bipush hX dX7_misses_5 kn_b_64 ?_
    refine g_icmpN_ge (tgt := 64) hX dX7_misses_7 (by decide) (by omega) (by omega) (fun h7 => ?_) (fun h7 => ?_)
    · skip
      obtain rfl : k = 64 := by omega
      refine g_iload_n hX dX7_misses_64 rfl ?_
      subst hQ
      exact g_iret hX dX7_misses_65 (rfl) (rfl) rfl rfl
    · skip
      refine g_aload_n hX dX7_misses_10 rfl ?_
      refine g_getf hX dX7_misses_11 fk_X7_7 0 rfl hf ?_
      refine g_bipush hX dX7_misses_14 kn_b_94 ?_
      refine g_iload_n hX dX7_misses_16 rfl ?_
      refine g_iaddN hX dX7_misses_17 ?_
      refine g_iald hX dX7_misses_18 1 rfl (by decide) (by omega) ?_
      have J19 : ∀ (v19_0 : Int32), (v19_0 = (if (w (94 + k)) ≤ 0 then (miTo w q k) else ((miTo w q k) + (if 0 ≤ ((w (94 + k)) - (gapOf w q (k / 8) (k % 8))) then ((w (94 + k)) - (gapOf w q (k / 8) (k % 8))) else (-((w (94 + k)) - (gapOf w q (k / 8) (k % 8)))))))) → G X Q [(a0, .inr (8, fs)), (a1, .inl (D.1 100, 3318, .inl w)), (a7, .inl (D.1 100, 16, .inl q))] 0 0 58 [some (.ref a0), some (.int v19_0), some (.int (nI k)), none] [] := by
        intro v19_0 ev19_0
        subst ev19_0
        refine g_iincN (L' := [some (.ref a0), some (.int (if (w (94 + k)) ≤ 0 then (miTo w q k) else ((miTo w q k) + (if 0 ≤ ((w (94 + k)) - (gapOf w q (k / 8) (k % 8))) then ((w (94 + k)) - (gapOf w q (k / 8) (k % 8))) else (-((w (94 + k)) - (gapOf w q (k / 8) (k % 8)))))))), some (.int (nI (k + 1))), none]) hX dX7_misses_58 rfl (by decide) rfl ?_
        refine g_goto (tgt := 4) hX dX7_misses_61 (by decide) ?_
        exact g_fin (ih4 (by omega) ) (rfl) rfl ⟨rfl, rfl, rfl, trivial⟩
      refine g_if_le (tgt := 58) hX dX7_misses_19 (by decide) (fun h19 => ?_) (fun h19 => ?_)
      · skip
        exact g_to (J19 (miTo w q k) (if_pos h19).symm) ⟨rfl, rfl, rfl, trivial⟩
      · skip
        refine g_aload_n hX dX7_misses_22 rfl ?_
        refine g_getf hX dX7_misses_23 fk_X7_7 0 rfl hf ?_
        refine g_bipush hX dX7_misses_26 kn_b_94 ?_
        refine g_iload_n hX dX7_misses_28 rfl ?_
        refine g_iaddN hX dX7_misses_29 ?_
        refine g_iald hX dX7_misses_30 1 rfl (by decide) (by omega) ?_
        refine g_aload_n hX dX7_misses_31 rfl ?_
        refine g_iload_n hX dX7_misses_32 rfl ?_
        refine g_bipush hX dX7_misses_33 kn_b_8 ?_
        refine g_idivN hX dX7_misses_35 (by omega) (by omega) (by omega) ?_
        refine g_iload_n hX dX7_misses_36 rfl ?_
        refine g_bipush hX dX7_misses_37 kn_b_8 ?_
        refine g_iremN hX dX7_misses_39 (by omega) (by omega) (by omega) ?_
        refine g_callRi hX dX7_misses_40 cw_X7_129 (ct_X7_gapOf  (by first | with_reducible assumption | rfl) (by first | with_reducible assumption | rfl) (by omega) (by omega) (hb k (by omega) h19)) 0 8 [0, 1, 2] rfl rfl rfl rfl (by decide) rfl ⟨by decide, by decide⟩ (Nat.le_of_ble_eq_true rfl) (Nat.le_refl _) (Nat.le_refl _) ?_
        refine g_isub hX dX7_misses_43 ?_
        refine g_istore_n (L' := [some (.ref a0), some (.int (miTo w q k)), some (.int (nI k)), some (.int ((w (94 + k)) - (gapOf w q (k / 8) (k % 8))))]) hX dX7_misses_44 (by decide) rfl ?_
        refine g_iload_n hX dX7_misses_45 rfl ?_
        refine g_iload_n hX dX7_misses_46 rfl ?_
        have J47 : ∀ (v47_0 : Int32), (v47_0 = (if 0 ≤ ((w (94 + k)) - (gapOf w q (k / 8) (k % 8))) then ((w (94 + k)) - (gapOf w q (k / 8) (k % 8))) else (-((w (94 + k)) - (gapOf w q (k / 8) (k % 8)))))) → G X Q [(a0, .inr (8, fs)), (a1, .inl (D.1 100, 3318, .inl w)), (a7, .inl (D.1 100, 16, .inl q))] 0 0 56 [some (.ref a0), some (.int (miTo w q k)), some (.int (nI k)), some (.int ((w (94 + k)) - (gapOf w q (k / 8) (k % 8))))] [.int v47_0, .int (miTo w q k)] := by
          intro v47_0 ev47_0
          subst ev47_0
          refine g_iadd hX dX7_misses_56 ?_
          refine g_istore_n (L' := [some (.ref a0), some (.int ((miTo w q k) + (if 0 ≤ ((w (94 + k)) - (gapOf w q (k / 8) (k % 8))) then ((w (94 + k)) - (gapOf w q (k / 8) (k % 8))) else (-((w (94 + k)) - (gapOf w q (k / 8) (k % 8))))))), some (.int (nI k)), some (.int ((w (94 + k)) - (gapOf w q (k / 8) (k % 8))))]) hX dX7_misses_57 (by decide) rfl ?_
          exact g_to (J19 ((miTo w q k) + (if 0 ≤ ((w (94 + k)) - (gapOf w q (k / 8) (k % 8))) then ((w (94 + k)) - (gapOf w q (k / 8) (k % 8))) else (-((w (94 + k)) - (gapOf w q (k / 8) (k % 8)))))) (if_neg h19).symm) ⟨rfl, rfl, rfl, trivial⟩
        refine g_if_ge (tgt := 55) hX dX7_misses_47 (by decide) (fun h47 => ?_) (fun h47 => ?_)
        · skip
          refine g_iload_n hX dX7_misses_55 rfl ?_
          exact g_to (J47 ((w (94 + k)) - (gapOf w q (k / 8) (k % 8))) (if_pos h47).symm) ⟨rfl, rfl, rfl, rfl, trivial⟩
        · skip
          refine g_iload_n hX dX7_misses_50 rfl ?_
          refine g_ineg hX dX7_misses_51 ?_
          refine g_goto (tgt := 56) hX dX7_misses_52 (by decide) ?_
          exact g_to (J47 (-((w (94 + k)) - (gapOf w q (k / 8) (k % 8)))) (if_neg h47).symm) ⟨rfl, rfl, rfl, rfl, trivial⟩
  exact g_fin (loop4 0 (by omega) ) (rfl) rfl ⟨rfl, rfl, rfl, trivial⟩
