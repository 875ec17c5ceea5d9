set_option maxRecDepth 100000 in
set_option maxHeartbeats 4000000 in
theorem ct_X7_isIn {l : Launch} {D : va_G} {a0 a1 a7 : Nat} {fs : List Value} {w q : Nat → Int32} {c d : Nat} {i j : Int32} (hf : fs[0]? = some (.ref a1)) (hg : fs[12]? = some (.ref a7)) (hc : c < 8) (hd : d < 8) : Cf l D yX7_isIn cX7_isIn 5 (some .boolean) 2 46 [.ref a0, .int (nI c), .int (nI d), .int i, .int j] [(a0, .inr (8, fs)), (a1, .inl (D.1 100, 3318, .inl w)), (a7, .inl (D.1 100, 16, .inl q))] (some (.int (bI (isInB w q c d i j)))) [(a0, .inr (8, fs)), (a1, .inl (D.1 100, 3318, .inl w)), (a7, .inl (D.1 100, 16, .inl q))] := by
  refine Ct.ofG (by decide) (Nat.le_of_ble_eq_true rfl) ?_
  intro X hX
  have hX : CX X l D RX7 "isIn" cX7_isIn 5 (some .boolean) 2 46 0 0 := hX
  show G X (QF X (some (.int (bI (isInB w q c d i j)))) [(a0, .inr (8, fs)), (a1, .inl (D.1 100, 3318, .inl w)), (a7, .inl (D.1 100, 16, .inl q))]) [(a0, .inr (8, fs)), (a1, .inl (D.1 100, 3318, .inl w)), (a7, .inl (D.1 100, 16, .inl q))] 0 0 0 [some (.ref a0), some (.int (nI c)), some (.int (nI d)), some (.int i), some (.int j)] []
  generalize hQ : QF X (some (.int (bI (isInB w q c d i j)))) [(a0, .inr (8, fs)), (a1, .inl (D.1 100, 3318, .inl w)), (a7, .inl (D.1 100, 16, .inl q))] = Q
  refine g_aload_n hX dX7_isIn_0 rfl ?_
  refine g_iload_n hX dX7_isIn_1 rfl ?_
  refine g_callRi hX dX7_isIn_2 cw_X7_69 (ct_X7_isKnown_N  (by first | with_reducible assumption | rfl) (by omega)) 0 8 [0, 1] rfl rfl rfl rfl (by decide) rfl ⟨by decide, by decide⟩ (Nat.le_of_ble_eq_true rfl) (Nat.le_refl _) (Nat.le_refl _) ?_
  refine g_ifb_eq (tgt := 44) hX dX7_isIn_5 (by decide) (fun h5 => ?_) (fun h5 => ?_)
  · skip
    refine g_iconst hX dX7_isIn_44 kn_i_0 ?_
    subst hQ
    exact g_zret false hX dX7_isIn_45 (by decide) (bR (by simp [isInB, *])) (rfl) rfl rfl
  · skip
    refine g_aload_n hX dX7_isIn_8 rfl ?_
    refine g_iload_n hX dX7_isIn_9 rfl ?_
    refine g_callRi hX dX7_isIn_10 cw_X7_69 (ct_X7_isKnown_N  (by first | with_reducible assumption | rfl) (by omega)) 0 8 [0, 1] rfl rfl rfl rfl (by decide) rfl ⟨by decide, by decide⟩ (Nat.le_of_ble_eq_true rfl) (Nat.le_refl _) (Nat.le_refl _) ?_
    refine g_ifb_eq (tgt := 44) hX dX7_isIn_13 (by decide) (fun h13 => ?_) (fun h13 => ?_)
    · skip
      refine g_iconst hX dX7_isIn_44 kn_i_0 ?_
      subst hQ
      exact g_zret false hX dX7_isIn_45 (by decide) (bR (by simp [isInB, *])) (rfl) rfl rfl
    · skip
      refine g_aload_n hX dX7_isIn_16 rfl ?_
      refine g_getf hX dX7_isIn_17 fk_X7_32 0 rfl hg ?_
      refine g_bipush hX dX7_isIn_20 kn_b_8 ?_
      refine g_iload_n hX dX7_isIn_22 rfl ?_
      refine g_iaddN hX dX7_isIn_23 ?_
      refine g_iald hX dX7_isIn_24 2 rfl (by decide) (by omega) ?_
      refine g_iload_n hX dX7_isIn_25 rfl ?_
      refine g_icmp_ne (tgt := 44) hX dX7_isIn_26 (by decide) (fun h26 => ?_) (fun h26 => ?_)
      · skip
        refine g_iconst hX dX7_isIn_44 kn_i_0 ?_
        subst hQ
        exact g_zret false hX dX7_isIn_45 (by decide) (bR (by simp [isInB, *])) (rfl) rfl rfl
      · skip
        refine g_aload_n hX dX7_isIn_29 rfl ?_
        refine g_getf hX dX7_isIn_30 fk_X7_32 0 rfl hg ?_
        refine g_iload_n hX dX7_isIn_33 rfl ?_
        refine g_iald hX dX7_isIn_34 2 rfl (by decide) (by omega) ?_
        refine g_iload hX dX7_isIn_35 rfl ?_
        refine g_icmp_ne (tgt := 44) hX dX7_isIn_37 (by decide) (fun h37 => ?_) (fun h37 => ?_)
        · skip
          refine g_iconst hX dX7_isIn_44 kn_i_0 ?_
          subst hQ
          exact g_zret false hX dX7_isIn_45 (by decide) (bR (by simp [isInB, *])) (rfl) rfl rfl
        · skip
          refine g_iconst hX dX7_isIn_40 kn_i_1 ?_
          refine g_goto (tgt := 45) hX dX7_isIn_41 (by decide) ?_
          subst hQ
          exact g_zret true hX dX7_isIn_45 (by decide) (bR (by simp [isInB, *])) (rfl) rfl rfl
set_option maxRecDepth 100000 in
set_option maxHeartbeats 4000000 in
theorem ct_X7_window_0 {l : Launch} {D : va_G} {a0 a1 a7 : Nat} {fs : List Value} {w q : Nat → Int32} {i j lo hi : Int32} (hf : fs[0]? = some (.ref a1)) (hg : fs[12]? = some (.ref a7)) : Cf l D yX7_window cX7_window 10 (some .int) 3 70 [.ref a0, .int i, .int j, .int lo, .int hi, .int (nI 0)] [(a0, .inr (8, fs)), (a1, .inl (D.1 100, 3318, .inl w)), (a7, .inl (D.1 100, 16, .inl q))] (some (.int (winC w q i j lo hi 64))) [(a0, .inr (8, fs)), (a1, .inl (D.1 100, 3318, .inl w)), (a7, .inl (D.1 100, 16, .inl q))] := by
  refine Ct.ofG (by decide) (Nat.le_of_ble_eq_true rfl) ?_
  intro X hX
  have hX : CX X l D RX7 "window" cX7_window 10 (some .int) 3 70 0 0 := hX
  show G X (QF X (some (.int (winC w q i j lo hi 64))) [(a0, .inr (8, fs)), (a1, .inl (D.1 100, 3318, .inl w)), (a7, .inl (D.1 100, 16, .inl q))]) [(a0, .inr (8, fs)), (a1, .inl (D.1 100, 3318, .inl w)), (a7, .inl (D.1 100, 16, .inl q))] 0 0 0 [some (.ref a0), some (.int i), some (.int j), some (.int lo), some (.int hi), some (.int (nI 0)), none, none, none, none] []
  generalize hQ : QF X (some (.int (winC w q i j lo hi 64))) [(a0, .inr (8, fs)), (a1, .inl (D.1 100, 3318, .inl w)), (a7, .inl (D.1 100, 16, .inl q))] = Q
  refine g_iconst hX dX7_window_0 kn_i_0 ?_
  refine g_istore (L' := [some (.ref a0), some (.int i), some (.int j), some (.int lo), some (.int hi), some (.int (nI 0)), some (.int (nI 0)), none, none, none]) hX dX7_window_1 (by decide) rfl ?_
  refine g_iconst hX dX7_window_3 kn_i_0 ?_
  refine g_istore (L' := [some (.ref a0), some (.int i), some (.int j), some (.int lo), some (.int hi), some (.int (nI 0)), some (.int (nI 0)), some (.int (nI 0)), none, none]) hX dX7_window_4 (by decide) rfl ?_
  have loop6 : ∀ k : Nat, k ≤ 64 → G X Q [(a0, .inr (8, fs)), (a1, .inl (D.1 100, 3318, .inl w)), (a7, .inl (D.1 100, 16, .inl q))] 0 0 6 [some (.ref a0), some (.int i), some (.int j), some (.int lo), some (.int hi), some (.int (nI 0)), some (.int (winC w q i j lo hi k)), some (.int (nI k)), none, none] [] := by
    refine loopN 64 (fun k hh6 ih6 => ?_)
    refine g_iload hX dX7_window_6 rfl ?_
    refine g_bipush hX dX7_window_8 kn_b_64 ?_
    refine g_icmpN_ge (tgt := 101) hX dX7_window_10 (by decide) (by omega) (by omega) (fun h10 => ?_) (fun h10 => ?_)
    · skip
      obtain rfl : k = 64 := by omega
      refine g_iload hX dX7_window_101 rfl ?_
      subst hQ
      exact g_iret hX dX7_window_103 (rfl) (rfl) rfl rfl
    · skip
      refine g_aload_n hX dX7_window_13 rfl ?_
      refine g_getf hX dX7_window_14 fk_X7_7 0 rfl hf ?_
      refine g_bipush hX dX7_window_17 kn_b_94 ?_
      refine g_iload hX dX7_window_19 rfl ?_
      refine g_iaddN hX dX7_window_21 ?_
      refine g_iald hX dX7_window_22 1 rfl (by decide) (by omega) ?_
      refine g_istore (L' := [some (.ref a0), some (.int i), some (.int j), some (.int lo), some (.int hi), some (.int (nI 0)), some (.int (winC w q i j lo hi k)), some (.int (nI k)), some (.int (w (94 + k))), none]) hX dX7_window_23 (by decide) rfl ?_
      refine g_aload_n hX dX7_window_25 rfl ?_
      refine g_iload hX dX7_window_26 rfl ?_
      refine g_bipush hX dX7_window_28 kn_b_8 ?_
      refine g_idivN hX dX7_window_30 (by omega) (by omega) (by omega) ?_
      refine g_iload hX dX7_window_31 rfl ?_
      refine g_bipush hX dX7_window_33 kn_b_8 ?_
      refine g_iremN hX dX7_window_35 (by omega) (by omega) (by omega) ?_
      refine g_iload_n hX dX7_window_36 rfl ?_
      refine g_iload_n hX dX7_window_37 rfl ?_
      refine g_callRi hX dX7_window_38 cw_X7_94 (ct_X7_isIn  (by first | with_reducible assumption | rfl) (by first | with_reducible assumption | rfl) (by omega) (by omega)) 0 8 [0, 1, 2] rfl rfl rfl rfl (by decide) rfl ⟨by decide, by decide⟩ (Nat.le_of_ble_eq_true rfl) (Nat.le_refl _) (Nat.le_refl _) ?_
      have J41 : ∀ (v41_0 : Bool), (v41_0 = ((isInB w q (k / 8) (k % 8) i j) && (!(decide ((w (94 + k)) ≤ 0)) && (inB ((w (94 + k)).toInt64) lo.toInt64 hi.toInt64)))) → G X Q [(a0, .inr (8, fs)), (a1, .inl (D.1 100, 3318, .inl w)), (a7, .inl (D.1 100, 16, .inl q))] 0 0 68 [some (.ref a0), some (.int i), some (.int j), some (.int lo), some (.int hi), some (.int (nI 0)), some (.int (winC w q i j lo hi k)), some (.int (nI k)), some (.int (w (94 + k))), none] [.int (bI v41_0)] := by
        intro v41_0 ev41_0
        subst ev41_0
        refine g_istore (L' := [some (.ref a0), some (.int i), some (.int j), some (.int lo), some (.int hi), some (.int (nI 0)), some (.int (winC w q i j lo hi k)), some (.int (nI k)), some (.int (w (94 + k))), some (.int (bI ((isInB w q (k / 8) (k % 8) i j) && (!(decide ((w (94 + k)) ≤ 0)) && (inB ((w (94 + k)).toInt64) lo.toInt64 hi.toInt64)))))]) hX dX7_window_68 (by decide) rfl ?_
        refine g_iload hX dX7_window_70 rfl ?_
        refine g_iload hX dX7_window_72 rfl ?_
        have J74 : ∀ (v74_0 : Bool), (v74_0 = (((isInB w q (k / 8) (k % 8) i j) && (!(decide ((w (94 + k)) ≤ 0)) && (inB ((w (94 + k)).toInt64) lo.toInt64 hi.toInt64))))) → G X Q [(a0, .inr (8, fs)), (a1, .inl (D.1 100, 3318, .inl w)), (a7, .inl (D.1 100, 16, .inl q))] 0 0 92 [some (.ref a0), some (.int i), some (.int j), some (.int lo), some (.int hi), some (.int (nI 0)), some (.int (winC w q i j lo hi k)), some (.int (nI k)), some (.int (w (94 + k))), some (.int (bI ((isInB w q (k / 8) (k % 8) i j) && (!(decide ((w (94 + k)) ≤ 0)) && (inB ((w (94 + k)).toInt64) lo.toInt64 hi.toInt64)))))] [.int (bI v74_0), .int (winC w q i j lo hi k)] := by
          intro v74_0 ev74_0
          subst ev74_0
          refine g_iadd hX dX7_window_92 ?_
          refine g_istore (L' := [some (.ref a0), some (.int i), some (.int j), some (.int lo), some (.int hi), some (.int (nI 0)), some (.int ((winC w q i j lo hi k) + (bI (((isInB w q (k / 8) (k % 8) i j) && (!(decide ((w (94 + k)) ≤ 0)) && (inB ((w (94 + k)).toInt64) lo.toInt64 hi.toInt64))))))), some (.int (nI k)), some (.int (w (94 + k))), some (.int (bI ((isInB w q (k / 8) (k % 8) i j) && (!(decide ((w (94 + k)) ≤ 0)) && (inB ((w (94 + k)).toInt64) lo.toInt64 hi.toInt64)))))]) hX dX7_window_93 (by decide) rfl ?_
          refine g_iincN (L' := [some (.ref a0), some (.int i), some (.int j), some (.int lo), some (.int hi), some (.int (nI 0)), some (.int ((winC w q i j lo hi k) + (bI (((isInB w q (k / 8) (k % 8) i j) && (!(decide ((w (94 + k)) ≤ 0)) && (inB ((w (94 + k)).toInt64) lo.toInt64 hi.toInt64))))))), some (.int (nI (k + 1))), some (.int (w (94 + k))), some (.int (bI ((isInB w q (k / 8) (k % 8) i j) && (!(decide ((w (94 + k)) ≤ 0)) && (inB ((w (94 + k)).toInt64) lo.toInt64 hi.toInt64)))))]) hX dX7_window_95 rfl (by decide) rfl ?_
          refine g_goto (tgt := 6) hX dX7_window_98 (by decide) ?_
          exact g_fin (ih6 (by omega) ) (rfl) rfl ⟨rfl, rfl, rfl, rfl, rfl, rfl, rfl, rfl, trivial⟩
        refine g_ifb_eq (tgt := 91) hX dX7_window_74 (by decide) (fun h74 => ?_) (fun h74 => ?_)
        · skip
          refine g_iconst hX dX7_window_91 kn_i_0 ?_
          refine g_top (v' := bI false) rfl ?_
          exact g_to (J74 false (by rw [h74] <;> rfl)) ⟨rfl, rfl, rfl, rfl, rfl, rfl, rfl, rfl, rfl, rfl, trivial⟩
        · skip
          refine g_iload hX dX7_window_77 rfl ?_
          refine g_if_eq (tgt := 87) hX dX7_window_79 (by decide) (fun _ => ?_) (fun h => absurd (by decide) h)
          refine g_iconst hX dX7_window_87 kn_i_1 ?_
          refine g_goto (tgt := 92) hX dX7_window_88 (by decide) ?_
          refine g_top (v' := bI true) rfl ?_
          exact g_to (J74 true (by rw [h74] <;> rfl)) ⟨rfl, rfl, rfl, rfl, rfl, rfl, rfl, rfl, rfl, rfl, trivial⟩
      refine g_ifb_eq (tgt := 67) hX dX7_window_41 (by decide) (fun h41 => ?_) (fun h41 => ?_)
      · skip
        refine g_iconst hX dX7_window_67 kn_i_0 ?_
        refine g_top (v' := bI false) rfl ?_
        exact g_to (J41 false (by rw [h41] <;> rfl)) ⟨rfl, rfl, rfl, rfl, rfl, rfl, rfl, rfl, rfl, trivial⟩
      · skip
        refine g_iload hX dX7_window_44 rfl ?_
        have J46 : ∀ (v46_0 : Bool), (v46_0 = (!(decide ((w (94 + k)) ≤ 0)) && (inB ((w (94 + k)).toInt64) lo.toInt64 hi.toInt64))) → G X Q [(a0, .inr (8, fs)), (a1, .inl (D.1 100, 3318, .inl w)), (a7, .inl (D.1 100, 16, .inl q))] 0 0 68 [some (.ref a0), some (.int i), some (.int j), some (.int lo), some (.int hi), some (.int (nI 0)), some (.int (winC w q i j lo hi k)), some (.int (nI k)), some (.int (w (94 + k))), none] [.int (bI v46_0)] := by
          intro v46_0 ev46_0
          subst ev46_0
          exact g_to (J41 (!(decide ((w (94 + k)) ≤ 0)) && (inB ((w (94 + k)).toInt64) lo.toInt64 hi.toInt64)) (by rw [h41] <;> rfl)) ⟨rfl, rfl, rfl, rfl, rfl, rfl, rfl, rfl, rfl, trivial⟩
        refine g_if_le (tgt := 67) hX dX7_window_46 (by decide) (fun h46 => ?_) (fun h46 => ?_)
        · skip
          refine g_iconst hX dX7_window_67 kn_i_0 ?_
          refine g_top (v' := bI false) rfl ?_
          exact g_to (J46 false (by rw [(decide_eq_true h46)] <;> rfl)) ⟨rfl, rfl, rfl, rfl, rfl, rfl, rfl, rfl, rfl, trivial⟩
        · skip
          refine g_iload hX dX7_window_49 rfl ?_
          refine g_i2l hX dX7_window_51 ?_
          refine g_iload_n hX dX7_window_52 rfl ?_
          refine g_i2l hX dX7_window_53 ?_
          refine g_iload hX dX7_window_54 rfl ?_
          refine g_i2l hX dX7_window_56 ?_
          refine g_callSRi hX dX7_window_57 cw_X7_53 ct_X7_in [] rfl rfl (by decide) rfl ⟨by decide, by decide⟩ (Nat.le_of_ble_eq_true rfl) (Nat.le_refl _) (Nat.le_refl _) ?_
          have J60 : ∀ (v60_0 : Bool), (v60_0 = (inB ((w (94 + k)).toInt64) lo.toInt64 hi.toInt64)) → G X Q [(a0, .inr (8, fs)), (a1, .inl (D.1 100, 3318, .inl w)), (a7, .inl (D.1 100, 16, .inl q))] 0 0 68 [some (.ref a0), some (.int i), some (.int j), some (.int lo), some (.int hi), some (.int (nI 0)), some (.int (winC w q i j lo hi k)), some (.int (nI k)), some (.int (w (94 + k))), none] [.int (bI v60_0)] := by
            intro v60_0 ev60_0
            subst ev60_0
            exact g_to (J46 (inB ((w (94 + k)).toInt64) lo.toInt64 hi.toInt64) (by rw [(decide_eq_false h46)] <;> rfl)) ⟨rfl, rfl, rfl, rfl, rfl, rfl, rfl, rfl, rfl, trivial⟩
          refine g_ifb_eq (tgt := 67) hX dX7_window_60 (by decide) (fun h60 => ?_) (fun h60 => ?_)
          · skip
            refine g_iconst hX dX7_window_67 kn_i_0 ?_
            refine g_top (v' := bI false) rfl ?_
            exact g_to (J60 false (by rw [h60] <;> rfl)) ⟨rfl, rfl, rfl, rfl, rfl, rfl, rfl, rfl, rfl, trivial⟩
          · skip
            refine g_iconst hX dX7_window_63 kn_i_1 ?_
            refine g_goto (tgt := 68) hX dX7_window_64 (by decide) ?_
            refine g_top (v' := bI true) rfl ?_
            exact g_to (J60 true (by rw [h60] <;> rfl)) ⟨rfl, rfl, rfl, rfl, rfl, rfl, rfl, rfl, rfl, trivial⟩
  exact g_fin (loop6 0 (by omega) ) (rfl) rfl ⟨rfl, rfl, rfl, rfl, rfl, rfl, rfl, rfl, trivial⟩
set_option maxRecDepth 100000 in
set_option maxHeartbeats 4000000 in
theorem ct_X7_window_1 {l : Launch} {D : va_G} {a0 a1 a7 : Nat} {fs : List Value} {w q : Nat → Int32} {i j lo hi : Int32} (hf : fs[0]? = some (.ref a1)) (hg : fs[12]? = some (.ref a7)) : Cf l D yX7_window cX7_window 10 (some .int) 3 70 [.ref a0, .int i, .int j, .int lo, .int hi, .int (nI 1)] [(a0, .inr (8, fs)), (a1, .inl (D.1 100, 3318, .inl w)), (a7, .inl (D.1 100, 16, .inl q))] (some (.int (winS w q i j lo hi 64))) [(a0, .inr (8, fs)), (a1, .inl (D.1 100, 3318, .inl w)), (a7, .inl (D.1 100, 16, .inl q))] := by
  refine Ct.ofG (by decide) (Nat.le_of_ble_eq_true rfl) ?_
  intro X hX
  have hX : CX X l D RX7 "window" cX7_window 10 (some .int) 3 70 0 0 := hX
  show G X (QF X (some (.int (winS w q i j lo hi 64))) [(a0, .inr (8, fs)), (a1, .inl (D.1 100, 3318, .inl w)), (a7, .inl (D.1 100, 16, .inl q))]) [(a0, .inr (8, fs)), (a1, .inl (D.1 100, 3318, .inl w)), (a7, .inl (D.1 100, 16, .inl q))] 0 0 0 [some (.ref a0), some (.int i), some (.int j), some (.int lo), some (.int hi), some (.int (nI 1)), none, none, none, none] []
  generalize hQ : QF X (some (.int (winS w q i j lo hi 64))) [(a0, .inr (8, fs)), (a1, .inl (D.1 100, 3318, .inl w)), (a7, .inl (D.1 100, 16, .inl q))] = Q
  refine g_iconst hX dX7_window_0 kn_i_0 ?_
  refine g_istore (L' := [some (.ref a0), some (.int i), some (.int j), some (.int lo), some (.int hi), some (.int (nI 1)), some (.int (nI 0)), none, none, none]) hX dX7_window_1 (by decide) rfl ?_
  refine g_iconst hX dX7_window_3 kn_i_0 ?_
  refine g_istore (L' := [some (.ref a0), some (.int i), some (.int j), some (.int lo), some (.int hi), some (.int (nI 1)), some (.int (nI 0)), some (.int (nI 0)), none, none]) hX dX7_window_4 (by decide) rfl ?_
  have loop6 : ∀ k : Nat, k ≤ 64 → G X Q [(a0, .inr (8, fs)), (a1, .inl (D.1 100, 3318, .inl w)), (a7, .inl (D.1 100, 16, .inl q))] 0 0 6 [some (.ref a0), some (.int i), some (.int j), some (.int lo), some (.int hi), some (.int (nI 1)), some (.int (winS w q i j lo hi k)), some (.int (nI k)), none, none] [] := by
    refine loopN 64 (fun k hh6 ih6 => ?_)
    refine g_iload hX dX7_window_6 rfl ?_
    refine g_bipush hX dX7_window_8 kn_b_64 ?_
    refine g_icmpN_ge (tgt := 101) hX dX7_window_10 (by decide) (by omega) (by omega) (fun h10 => ?_) (fun h10 => ?_)
    · skip
      obtain rfl : k = 64 := by omega
      refine g_iload hX dX7_window_101 rfl ?_
      subst hQ
      exact g_iret hX dX7_window_103 (rfl) (rfl) rfl rfl
    · skip
      refine g_aload_n hX dX7_window_13 rfl ?_
      refine g_getf hX dX7_window_14 fk_X7_7 0 rfl hf ?_
      refine g_bipush hX dX7_window_17 kn_b_94 ?_
      refine g_iload hX dX7_window_19 rfl ?_
      refine g_iaddN hX dX7_window_21 ?_
      refine g_iald hX dX7_window_22 1 rfl (by decide) (by omega) ?_
      refine g_istore (L' := [some (.ref a0), some (.int i), some (.int j), some (.int lo), some (.int hi), some (.int (nI 1)), some (.int (winS w q i j lo hi k)), some (.int (nI k)), some (.int (w (94 + k))), none]) hX dX7_window_23 (by decide) rfl ?_
      refine g_aload_n hX dX7_window_25 rfl ?_
      refine g_iload hX dX7_window_26 rfl ?_
      refine g_bipush hX dX7_window_28 kn_b_8 ?_
      refine g_idivN hX dX7_window_30 (by omega) (by omega) (by omega) ?_
      refine g_iload hX dX7_window_31 rfl ?_
      refine g_bipush hX dX7_window_33 kn_b_8 ?_
      refine g_iremN hX dX7_window_35 (by omega) (by omega) (by omega) ?_
      refine g_iload_n hX dX7_window_36 rfl ?_
      refine g_iload_n hX dX7_window_37 rfl ?_
      refine g_callRi hX dX7_window_38 cw_X7_94 (ct_X7_isIn  (by first | with_reducible assumption | rfl) (by first | with_reducible assumption | rfl) (by omega) (by omega)) 0 8 [0, 1, 2] rfl rfl rfl rfl (by decide) rfl ⟨by decide, by decide⟩ (Nat.le_of_ble_eq_true rfl) (Nat.le_refl _) (Nat.le_refl _) ?_
      have J41 : ∀ (v41_0 : Bool), (v41_0 = ((isInB w q (k / 8) (k % 8) i j) && (!(decide ((w (94 + k)) ≤ 0)) && (inB ((w (94 + k)).toInt64) lo.toInt64 hi.toInt64)))) → G X Q [(a0, .inr (8, fs)), (a1, .inl (D.1 100, 3318, .inl w)), (a7, .inl (D.1 100, 16, .inl q))] 0 0 68 [some (.ref a0), some (.int i), some (.int j), some (.int lo), some (.int hi), some (.int (nI 1)), some (.int (winS w q i j lo hi k)), some (.int (nI k)), some (.int (w (94 + k))), none] [.int (bI v41_0)] := by
        intro v41_0 ev41_0
        subst ev41_0
        refine g_istore (L' := [some (.ref a0), some (.int i), some (.int j), some (.int lo), some (.int hi), some (.int (nI 1)), some (.int (winS w q i j lo hi k)), some (.int (nI k)), some (.int (w (94 + k))), some (.int (bI ((isInB w q (k / 8) (k % 8) i j) && (!(decide ((w (94 + k)) ≤ 0)) && (inB ((w (94 + k)).toInt64) lo.toInt64 hi.toInt64)))))]) hX dX7_window_68 (by decide) rfl ?_
        refine g_iload hX dX7_window_70 rfl ?_
        refine g_iload hX dX7_window_72 rfl ?_
        have J74 : ∀ (v74_0 : Int32), (v74_0 = (if ((isInB w q (k / 8) (k % 8) i j) && (!(decide ((w (94 + k)) ≤ 0)) && (inB ((w (94 + k)).toInt64) lo.toInt64 hi.toInt64))) then (w (94 + k)) else (nI 0))) → G X Q [(a0, .inr (8, fs)), (a1, .inl (D.1 100, 3318, .inl w)), (a7, .inl (D.1 100, 16, .inl q))] 0 0 92 [some (.ref a0), some (.int i), some (.int j), some (.int lo), some (.int hi), some (.int (nI 1)), some (.int (winS w q i j lo hi k)), some (.int (nI k)), some (.int (w (94 + k))), some (.int (bI ((isInB w q (k / 8) (k % 8) i j) && (!(decide ((w (94 + k)) ≤ 0)) && (inB ((w (94 + k)).toInt64) lo.toInt64 hi.toInt64)))))] [.int v74_0, .int (winS w q i j lo hi k)] := by
          intro v74_0 ev74_0
          subst ev74_0
          refine g_iadd hX dX7_window_92 ?_
          refine g_istore (L' := [some (.ref a0), some (.int i), some (.int j), some (.int lo), some (.int hi), some (.int (nI 1)), some (.int ((winS w q i j lo hi k) + (if ((isInB w q (k / 8) (k % 8) i j) && (!(decide ((w (94 + k)) ≤ 0)) && (inB ((w (94 + k)).toInt64) lo.toInt64 hi.toInt64))) then (w (94 + k)) else (nI 0)))), some (.int (nI k)), some (.int (w (94 + k))), some (.int (bI ((isInB w q (k / 8) (k % 8) i j) && (!(decide ((w (94 + k)) ≤ 0)) && (inB ((w (94 + k)).toInt64) lo.toInt64 hi.toInt64)))))]) hX dX7_window_93 (by decide) rfl ?_
          refine g_iincN (L' := [some (.ref a0), some (.int i), some (.int j), some (.int lo), some (.int hi), some (.int (nI 1)), some (.int ((winS w q i j lo hi k) + (if ((isInB w q (k / 8) (k % 8) i j) && (!(decide ((w (94 + k)) ≤ 0)) && (inB ((w (94 + k)).toInt64) lo.toInt64 hi.toInt64))) then (w (94 + k)) else (nI 0)))), some (.int (nI (k + 1))), some (.int (w (94 + k))), some (.int (bI ((isInB w q (k / 8) (k % 8) i j) && (!(decide ((w (94 + k)) ≤ 0)) && (inB ((w (94 + k)).toInt64) lo.toInt64 hi.toInt64)))))]) hX dX7_window_95 rfl (by decide) rfl ?_
          refine g_goto (tgt := 6) hX dX7_window_98 (by decide) ?_
          exact g_fin (ih6 (by omega) ) (rfl) rfl ⟨rfl, rfl, rfl, rfl, rfl, rfl, rfl, rfl, trivial⟩
        refine g_ifb_eq (tgt := 91) hX dX7_window_74 (by decide) (fun h74 => ?_) (fun h74 => ?_)
        · skip
          refine g_iconst hX dX7_window_91 kn_i_0 ?_
          exact g_to (J74 (nI 0) (if_bf h74).symm) ⟨rfl, rfl, rfl, rfl, rfl, rfl, rfl, rfl, rfl, rfl, trivial⟩
        · skip
          refine g_iload hX dX7_window_77 rfl ?_
          refine g_if_eq (tgt := 87) hX dX7_window_79 (by decide) (fun h => absurd h (by decide)) (fun _ => ?_)
          refine g_iload hX dX7_window_82 rfl ?_
          refine g_goto (tgt := 92) hX dX7_window_84 (by decide) ?_
          exact g_to (J74 (w (94 + k)) (if_bt h74).symm) ⟨rfl, rfl, rfl, rfl, rfl, rfl, rfl, rfl, rfl, rfl, trivial⟩
      refine g_ifb_eq (tgt := 67) hX dX7_window_41 (by decide) (fun h41 => ?_) (fun h41 => ?_)
      · skip
        refine g_iconst hX dX7_window_67 kn_i_0 ?_
        refine g_top (v' := bI false) rfl ?_
        exact g_to (J41 false (by rw [h41] <;> rfl)) ⟨rfl, rfl, rfl, rfl, rfl, rfl, rfl, rfl, rfl, trivial⟩
      · skip
        refine g_iload hX dX7_window_44 rfl ?_
        have J46 : ∀ (v46_0 : Bool), (v46_0 = (!(decide ((w (94 + k)) ≤ 0)) && (inB ((w (94 + k)).toInt64) lo.toInt64 hi.toInt64))) → G X Q [(a0, .inr (8, fs)), (a1, .inl (D.1 100, 3318, .inl w)), (a7, .inl (D.1 100, 16, .inl q))] 0 0 68 [some (.ref a0), some (.int i), some (.int j), some (.int lo), some (.int hi), some (.int (nI 1)), some (.int (winS w q i j lo hi k)), some (.int (nI k)), some (.int (w (94 + k))), none] [.int (bI v46_0)] := by
          intro v46_0 ev46_0
          subst ev46_0
          exact g_to (J41 (!(decide ((w (94 + k)) ≤ 0)) && (inB ((w (94 + k)).toInt64) lo.toInt64 hi.toInt64)) (by rw [h41] <;> rfl)) ⟨rfl, rfl, rfl, rfl, rfl, rfl, rfl, rfl, rfl, trivial⟩
        refine g_if_le (tgt := 67) hX dX7_window_46 (by decide) (fun h46 => ?_) (fun h46 => ?_)
        · skip
          refine g_iconst hX dX7_window_67 kn_i_0 ?_
          refine g_top (v' := bI false) rfl ?_
          exact g_to (J46 false (by rw [(decide_eq_true h46)] <;> rfl)) ⟨rfl, rfl, rfl, rfl, rfl, rfl, rfl, rfl, rfl, trivial⟩
        · skip
          refine g_iload hX dX7_window_49 rfl ?_
          refine g_i2l hX dX7_window_51 ?_
          refine g_iload_n hX dX7_window_52 rfl ?_
          refine g_i2l hX dX7_window_53 ?_
          refine g_iload hX dX7_window_54 rfl ?_
          refine g_i2l hX dX7_window_56 ?_
          refine g_callSRi hX dX7_window_57 cw_X7_53 ct_X7_in [] rfl rfl (by decide) rfl ⟨by decide, by decide⟩ (Nat.le_of_ble_eq_true rfl) (Nat.le_refl _) (Nat.le_refl _) ?_
          have J60 : ∀ (v60_0 : Bool), (v60_0 = (inB ((w (94 + k)).toInt64) lo.toInt64 hi.toInt64)) → G X Q [(a0, .inr (8, fs)), (a1, .inl (D.1 100, 3318, .inl w)), (a7, .inl (D.1 100, 16, .inl q))] 0 0 68 [some (.ref a0), some (.int i), some (.int j), some (.int lo), some (.int hi), some (.int (nI 1)), some (.int (winS w q i j lo hi k)), some (.int (nI k)), some (.int (w (94 + k))), none] [.int (bI v60_0)] := by
            intro v60_0 ev60_0
            subst ev60_0
            exact g_to (J46 (inB ((w (94 + k)).toInt64) lo.toInt64 hi.toInt64) (by rw [(decide_eq_false h46)] <;> rfl)) ⟨rfl, rfl, rfl, rfl, rfl, rfl, rfl, rfl, rfl, trivial⟩
          refine g_ifb_eq (tgt := 67) hX dX7_window_60 (by decide) (fun h60 => ?_) (fun h60 => ?_)
          · skip
            refine g_iconst hX dX7_window_67 kn_i_0 ?_
            refine g_top (v' := bI false) rfl ?_
            exact g_to (J60 false (by rw [h60] <;> rfl)) ⟨rfl, rfl, rfl, rfl, rfl, rfl, rfl, rfl, rfl, trivial⟩
          · skip
            refine g_iconst hX dX7_window_63 kn_i_1 ?_
            refine g_goto (tgt := 68) hX dX7_window_64 (by decide) ?_
            refine g_top (v' := bI true) rfl ?_
            exact g_to (J60 true (by rw [h60] <;> rfl)) ⟨rfl, rfl, rfl, rfl, rfl, rfl, rfl, rfl, rfl, trivial⟩
  exact g_fin (loop6 0 (by omega) ) (rfl) rfl ⟨rfl, rfl, rfl, rfl, rfl, rfl, rfl, rfl, trivial⟩
set_option maxRecDepth 100000 in
set_option maxHeartbeats 4000000 in
theorem ct_X7_windowOf {l : Launch} {D : va_G} {a0 a1 a7 : Nat} {fs : List Value} {w q : Nat → Int32} {i j : Int32} (hf : fs[0]? = some (.ref a1)) (hg : fs[12]? = some (.ref a7)) : Cf l D yX7_windowOf cX7_windowOf 8 (some .int) 4 99 [.ref a0, .int i, .int j] [(a0, .inr (8, fs)), (a1, .inl (D.1 100, 3318, .inl w)), (a7, .inl (D.1 100, 16, .inl q))] (some (.int (windowOf w q i j))) [(a0, .inr (8, fs)), (a1, .inl (D.1 100, 3318, .inl w)), (a7, .inl (D.1 100, 16, .inl q))] := by
  refine Ct.ofG (by decide) (Nat.le_of_ble_eq_true rfl) ?_
  intro X hX
  have hX : CX X l D RX7 "windowOf" cX7_windowOf 8 (some .int) 4 99 0 0 := hX
  show G X (QF X (some (.int (windowOf w q i j))) [(a0, .inr (8, fs)), (a1, .inl (D.1 100, 3318, .inl w)), (a7, .inl (D.1 100, 16, .inl q))]) [(a0, .inr (8, fs)), (a1, .inl (D.1 100, 3318, .inl w)), (a7, .inl (D.1 100, 16, .inl q))] 0 0 0 [some (.ref a0), some (.int i), some (.int j), none, none, none, none, none] []
  generalize hQ : QF X (some (.int (windowOf w q i j))) [(a0, .inr (8, fs)), (a1, .inl (D.1 100, 3318, .inl w)), (a7, .inl (D.1 100, 16, .inl q))] = Q
  refine g_iconst hX dX7_windowOf_0 kn_i_0 ?_
  refine g_istore_n (L' := [some (.ref a0), some (.int i), some (.int j), some (.int (nI 0)), none, none, none, none]) hX dX7_windowOf_1 (by decide) rfl ?_
  refine g_iconst hX dX7_windowOf_2 kn_i_0 ?_
  refine g_istore (L' := [some (.ref a0), some (.int i), some (.int j), some (.int (nI 0)), some (.int (nI 0)), none, none, none]) hX dX7_windowOf_3 (by decide) rfl ?_
  refine g_bipush hX dX7_windowOf_5 kn_b_80 ?_
  refine g_istore (L' := [some (.ref a0), some (.int i), some (.int j), some (.int (nI 0)), some (.int (nI 0)), some (.int (nI 80)), none, none]) hX dX7_windowOf_7 (by decide) rfl ?_
  have loop9 : ∀ t : Nat, t ≤ 41 → G X Q [(a0, .inr (8, fs)), (a1, .inl (D.1 100, 3318, .inl w)), (a7, .inl (D.1 100, 16, .inl q))] 0 0 9 [some (.ref a0), some (.int i), some (.int j), some (.int (wBest w q i j t)), some (.int (wMost w q i j t)), some (.int (nI (80 + t))), none, none] [] := by
    refine loopN 41 (fun t hh9 ih9 => ?_)
    refine g_iload hX dX7_windowOf_9 rfl ?_
    refine g_bipush hX dX7_windowOf_11 kn_b_120 ?_
    refine g_icmpN_gt (tgt := 104) hX dX7_windowOf_13 (by decide) (by omega) (by omega) (fun h13 => ?_) (fun h13 => ?_)
    · skip
      obtain rfl : t = 41 := by omega
      refine g_iload_n hX dX7_windowOf_104 rfl ?_
      subst hQ
      exact g_iret hX dX7_windowOf_105 (rfl) (rfl) rfl rfl
    · skip
      refine g_aload_n hX dX7_windowOf_16 rfl ?_
      refine g_iload_n hX dX7_windowOf_17 rfl ?_
      refine g_iload_n hX dX7_windowOf_18 rfl ?_
      refine g_iload hX dX7_windowOf_19 rfl ?_
      refine g_iload hX dX7_windowOf_21 rfl ?_
      refine g_iconst hX dX7_windowOf_23 kn_i_2 ?_
      refine g_aload_n hX dX7_windowOf_24 rfl ?_
      refine g_iconst hX dX7_windowOf_25 kn_i_1 ?_
      refine g_callRi hX dX7_windowOf_26 cw_X7_65 (ct_X7_termOf  (by first | with_reducible assumption | rfl) (by omega)) 0 8 [0, 1] rfl rfl rfl rfl (by decide) rfl ⟨by decide, by decide⟩ (Nat.le_of_ble_eq_true rfl) (Nat.le_refl _) (Nat.le_refl _) ?_
      refine g_imul hX dX7_windowOf_29 ?_
      refine g_iadd hX dX7_windowOf_30 ?_
      refine g_iconst hX dX7_windowOf_31 kn_i_0 ?_
      refine g_callRi hX dX7_windowOf_32 cw_X7_98 (ct_X7_window_0  (by first | with_reducible assumption | rfl) (by first | with_reducible assumption | rfl)) 0 8 [0, 1, 2] rfl rfl rfl rfl (by decide) rfl ⟨by decide, by decide⟩ (Nat.le_of_ble_eq_true rfl) (Nat.le_refl _) (Nat.le_refl _) ?_
      refine g_istore (L' := [some (.ref a0), some (.int i), some (.int j), some (.int (wBest w q i j t)), some (.int (wMost w q i j t)), some (.int (nI (80 + t))), some (.int (winC w q i j (nI (80 + t)) ((nI (80 + t)) + ((nI 2) * (w (1 + 1)))) 64)), none]) hX dX7_windowOf_35 (by decide) rfl ?_
      refine g_aload_n hX dX7_windowOf_37 rfl ?_
      refine g_iload_n hX dX7_windowOf_38 rfl ?_
      refine g_iload_n hX dX7_windowOf_39 rfl ?_
      refine g_iload hX dX7_windowOf_40 rfl ?_
      refine g_iload hX dX7_windowOf_42 rfl ?_
      refine g_iconst hX dX7_windowOf_44 kn_i_0 ?_
      refine g_callRi hX dX7_windowOf_45 cw_X7_98 (ct_X7_window_0  (by first | with_reducible assumption | rfl) (by first | with_reducible assumption | rfl)) 0 8 [0, 1, 2] rfl rfl rfl rfl (by decide) rfl ⟨by decide, by decide⟩ (Nat.le_of_ble_eq_true rfl) (Nat.le_refl _) (Nat.le_refl _) ?_
      have J48 : ∀ (v48_0 : Bool), (v48_0 = (!(decide ((winC w q i j (nI (80 + t)) (nI (80 + t)) 64) ≤ 0)))) → G X Q [(a0, .inr (8, fs)), (a1, .inl (D.1 100, 3318, .inl w)), (a7, .inl (D.1 100, 16, .inl q))] 0 0 56 [some (.ref a0), some (.int i), some (.int j), some (.int (wBest w q i j t)), some (.int (wMost w q i j t)), some (.int (nI (80 + t))), some (.int (winC w q i j (nI (80 + t)) ((nI (80 + t)) + ((nI 2) * (w (1 + 1)))) 64)), none] [.int (bI v48_0)] := by
        intro v48_0 ev48_0
        subst ev48_0
        refine g_istore (L' := [some (.ref a0), some (.int i), some (.int j), some (.int (wBest w q i j t)), some (.int (wMost w q i j t)), some (.int (nI (80 + t))), some (.int (winC w q i j (nI (80 + t)) ((nI (80 + t)) + ((nI 2) * (w (1 + 1)))) 64)), some (.int (bI (!(decide ((winC w q i j (nI (80 + t)) (nI (80 + t)) 64) ≤ 0)))))]) hX dX7_windowOf_56 (by decide) rfl ?_
        refine g_iload hX dX7_windowOf_58 rfl ?_
        have J60 : ∀ (v60_0 : Int32), (v60_0 = (if (!(decide ((winC w q i j (nI (80 + t)) (nI (80 + t)) 64) ≤ 0))) then (if (winC w q i j (nI (80 + t)) ((nI (80 + t)) + ((nI 2) * (w (1 + 1)))) 64) ≤ (wMost w q i j t) then (wBest w q i j t) else (nI (80 + t))) else (wBest w q i j t))) → G X Q [(a0, .inr (8, fs)), (a1, .inl (D.1 100, 3318, .inl w)), (a7, .inl (D.1 100, 16, .inl q))] 0 0 76 [some (.ref a0), some (.int i), some (.int j), some (.int (wBest w q i j t)), some (.int (wMost w q i j t)), some (.int (nI (80 + t))), some (.int (winC w q i j (nI (80 + t)) ((nI (80 + t)) + ((nI 2) * (w (1 + 1)))) 64)), some (.int (bI (!(decide ((winC w q i j (nI (80 + t)) (nI (80 + t)) 64) ≤ 0)))))] [.int v60_0] := by
          intro v60_0 ev60_0
          subst ev60_0
          refine g_istore_n (L' := [some (.ref a0), some (.int i), some (.int j), some (.int (if (!(decide ((winC w q i j (nI (80 + t)) (nI (80 + t)) 64) ≤ 0))) then (if (winC w q i j (nI (80 + t)) ((nI (80 + t)) + ((nI 2) * (w (1 + 1)))) 64) ≤ (wMost w q i j t) then (wBest w q i j t) else (nI (80 + t))) else (wBest w q i j t))), some (.int (wMost w q i j t)), some (.int (nI (80 + t))), some (.int (winC w q i j (nI (80 + t)) ((nI (80 + t)) + ((nI 2) * (w (1 + 1)))) 64)), some (.int (bI (!(decide ((winC w q i j (nI (80 + t)) (nI (80 + t)) 64) ≤ 0)))))]) hX dX7_windowOf_76 (by decide) rfl ?_
          refine g_iload hX dX7_windowOf_77 rfl ?_
          have J79 : ∀ (v79_0 : Int32), (v79_0 = (if (!(decide ((winC w q i j (nI (80 + t)) (nI (80 + t)) 64) ≤ 0))) then (if (winC w q i j (nI (80 + t)) ((nI (80 + t)) + ((nI 2) * (w (1 + 1)))) 64) ≤ (wMost w q i j t) then (wMost w q i j t) else (winC w q i j (nI (80 + t)) ((nI (80 + t)) + ((nI 2) * (w (1 + 1)))) 64)) else (wMost w q i j t))) → G X Q [(a0, .inr (8, fs)), (a1, .inl (D.1 100, 3318, .inl w)), (a7, .inl (D.1 100, 16, .inl q))] 0 0 96 [some (.ref a0), some (.int i), some (.int j), some (.int (if (!(decide ((winC w q i j (nI (80 + t)) (nI (80 + t)) 64) ≤ 0))) then (if (winC w q i j (nI (80 + t)) ((nI (80 + t)) + ((nI 2) * (w (1 + 1)))) 64) ≤ (wMost w q i j t) then (wBest w q i j t) else (nI (80 + t))) else (wBest w q i j t))), some (.int (wMost w q i j t)), some (.int (nI (80 + t))), some (.int (winC w q i j (nI (80 + t)) ((nI (80 + t)) + ((nI 2) * (w (1 + 1)))) 64)), some (.int (bI (!(decide ((winC w q i j (nI (80 + t)) (nI (80 + t)) 64) ≤ 0)))))] [.int v79_0] := by
            intro v79_0 ev79_0
            subst ev79_0
            refine g_istore (L' := [some (.ref a0), some (.int i), some (.int j), some (.int (if (!(decide ((winC w q i j (nI (80 + t)) (nI (80 + t)) 64) ≤ 0))) then (if (winC w q i j (nI (80 + t)) ((nI (80 + t)) + ((nI 2) * (w (1 + 1)))) 64) ≤ (wMost w q i j t) then (wBest w q i j t) else (nI (80 + t))) else (wBest w q i j t))), some (.int (if (!(decide ((winC w q i j (nI (80 + t)) (nI (80 + t)) 64) ≤ 0))) then (if (winC w q i j (nI (80 + t)) ((nI (80 + t)) + ((nI 2) * (w (1 + 1)))) 64) ≤ (wMost w q i j t) then (wMost w q i j t) else (winC w q i j (nI (80 + t)) ((nI (80 + t)) + ((nI 2) * (w (1 + 1)))) 64)) else (wMost w q i j t))), some (.int (nI (80 + t))), some (.int (winC w q i j (nI (80 + t)) ((nI (80 + t)) + ((nI 2) * (w (1 + 1)))) 64)), some (.int (bI (!(decide ((winC w q i j (nI (80 + t)) (nI (80 + t)) 64) ≤ 0)))))]) hX dX7_windowOf_96 (by decide) rfl ?_
            refine g_iincN (L' := [some (.ref a0), some (.int i), some (.int j), some (.int (if (!(decide ((winC w q i j (nI (80 + t)) (nI (80 + t)) 64) ≤ 0))) then (if (winC w q i j (nI (80 + t)) ((nI (80 + t)) + ((nI 2) * (w (1 + 1)))) 64) ≤ (wMost w q i j t) then (wBest w q i j t) else (nI (80 + t))) else (wBest w q i j t))), some (.int (if (!(decide ((winC w q i j (nI (80 + t)) (nI (80 + t)) 64) ≤ 0))) then (if (winC w q i j (nI (80 + t)) ((nI (80 + t)) + ((nI 2) * (w (1 + 1)))) 64) ≤ (wMost w q i j t) then (wMost w q i j t) else (winC w q i j (nI (80 + t)) ((nI (80 + t)) + ((nI 2) * (w (1 + 1)))) 64)) else (wMost w q i j t))), some (.int (nI ((80 + t) + 1))), some (.int (winC w q i j (nI (80 + t)) ((nI (80 + t)) + ((nI 2) * (w (1 + 1)))) 64)), some (.int (bI (!(decide ((winC w q i j (nI (80 + t)) (nI (80 + t)) 64) ≤ 0)))))]) hX dX7_windowOf_98 rfl (by decide) rfl ?_
            refine g_goto (tgt := 9) hX dX7_windowOf_101 (by decide) ?_
            exact g_fin (ih9 (by omega) ) (rfl) rfl ⟨rfl, rfl, rfl, rfl, rfl, rfl, trivial⟩
          refine g_ifb_eq (tgt := 94) hX dX7_windowOf_79 (by decide) (fun h79 => ?_) (fun h79 => ?_)
          · skip
            refine g_iload hX dX7_windowOf_94 rfl ?_
            exact g_to (J79 (wMost w q i j t) (if_bf h79).symm) ⟨rfl, rfl, rfl, rfl, rfl, rfl, rfl, rfl, trivial⟩
          · skip
            refine g_iload hX dX7_windowOf_82 rfl ?_
            refine g_iload hX dX7_windowOf_84 rfl ?_
            have J86 : ∀ (v86_0 : Int32), (v86_0 = (if (winC w q i j (nI (80 + t)) ((nI (80 + t)) + ((nI 2) * (w (1 + 1)))) 64) ≤ (wMost w q i j t) then (wMost w q i j t) else (winC w q i j (nI (80 + t)) ((nI (80 + t)) + ((nI 2) * (w (1 + 1)))) 64))) → G X Q [(a0, .inr (8, fs)), (a1, .inl (D.1 100, 3318, .inl w)), (a7, .inl (D.1 100, 16, .inl q))] 0 0 96 [some (.ref a0), some (.int i), some (.int j), some (.int (if (!(decide ((winC w q i j (nI (80 + t)) (nI (80 + t)) 64) ≤ 0))) then (if (winC w q i j (nI (80 + t)) ((nI (80 + t)) + ((nI 2) * (w (1 + 1)))) 64) ≤ (wMost w q i j t) then (wBest w q i j t) else (nI (80 + t))) else (wBest w q i j t))), some (.int (wMost w q i j t)), some (.int (nI (80 + t))), some (.int (winC w q i j (nI (80 + t)) ((nI (80 + t)) + ((nI 2) * (w (1 + 1)))) 64)), some (.int (bI (!(decide ((winC w q i j (nI (80 + t)) (nI (80 + t)) 64) ≤ 0)))))] [.int v86_0] := by
              intro v86_0 ev86_0
              subst ev86_0
              exact g_to (J79 (if (winC w q i j (nI (80 + t)) ((nI (80 + t)) + ((nI 2) * (w (1 + 1)))) 64) ≤ (wMost w q i j t) then (wMost w q i j t) else (winC w q i j (nI (80 + t)) ((nI (80 + t)) + ((nI 2) * (w (1 + 1)))) 64)) (if_bt h79).symm) ⟨rfl, rfl, rfl, rfl, rfl, rfl, rfl, rfl, trivial⟩
            refine g_icmp_le (tgt := 94) hX dX7_windowOf_86 (by decide) (fun h86 => ?_) (fun h86 => ?_)
            · skip
              refine g_iload hX dX7_windowOf_94 rfl ?_
              exact g_to (J86 (wMost w q i j t) (if_pos h86).symm) ⟨rfl, rfl, rfl, rfl, rfl, rfl, rfl, rfl, trivial⟩
            · skip
              refine g_iload hX dX7_windowOf_89 rfl ?_
              refine g_goto (tgt := 96) hX dX7_windowOf_91 (by decide) ?_
              exact g_to (J86 (winC w q i j (nI (80 + t)) ((nI (80 + t)) + ((nI 2) * (w (1 + 1)))) 64) (if_neg h86).symm) ⟨rfl, rfl, rfl, rfl, rfl, rfl, rfl, rfl, trivial⟩
        refine g_ifb_eq (tgt := 75) hX dX7_windowOf_60 (by decide) (fun h60 => ?_) (fun h60 => ?_)
        · skip
          refine g_iload_n hX dX7_windowOf_75 rfl ?_
          exact g_to (J60 (wBest w q i j t) (if_bf h60).symm) ⟨rfl, rfl, rfl, rfl, rfl, rfl, rfl, rfl, trivial⟩
        · skip
          refine g_iload hX dX7_windowOf_63 rfl ?_
          refine g_iload hX dX7_windowOf_65 rfl ?_
          have J67 : ∀ (v67_0 : Int32), (v67_0 = (if (winC w q i j (nI (80 + t)) ((nI (80 + t)) + ((nI 2) * (w (1 + 1)))) 64) ≤ (wMost w q i j t) then (wBest w q i j t) else (nI (80 + t)))) → G X Q [(a0, .inr (8, fs)), (a1, .inl (D.1 100, 3318, .inl w)), (a7, .inl (D.1 100, 16, .inl q))] 0 0 76 [some (.ref a0), some (.int i), some (.int j), some (.int (wBest w q i j t)), some (.int (wMost w q i j t)), some (.int (nI (80 + t))), some (.int (winC w q i j (nI (80 + t)) ((nI (80 + t)) + ((nI 2) * (w (1 + 1)))) 64)), some (.int (bI (!(decide ((winC w q i j (nI (80 + t)) (nI (80 + t)) 64) ≤ 0)))))] [.int v67_0] := by
            intro v67_0 ev67_0
            subst ev67_0
            exact g_to (J60 (if (winC w q i j (nI (80 + t)) ((nI (80 + t)) + ((nI 2) * (w (1 + 1)))) 64) ≤ (wMost w q i j t) then (wBest w q i j t) else (nI (80 + t))) (if_bt h60).symm) ⟨rfl, rfl, rfl, rfl, rfl, rfl, rfl, rfl, trivial⟩
          refine g_icmp_le (tgt := 75) hX dX7_windowOf_67 (by decide) (fun h67 => ?_) (fun h67 => ?_)
          · skip
            refine g_iload_n hX dX7_windowOf_75 rfl ?_
            exact g_to (J67 (wBest w q i j t) (if_pos h67).symm) ⟨rfl, rfl, rfl, rfl, rfl, rfl, rfl, rfl, trivial⟩
          · skip
            refine g_iload hX dX7_windowOf_70 rfl ?_
            refine g_goto (tgt := 76) hX dX7_windowOf_72 (by decide) ?_
            exact g_to (J67 (nI (80 + t)) (if_neg h67).symm) ⟨rfl, rfl, rfl, rfl, rfl, rfl, rfl, rfl, trivial⟩
      refine g_if_le (tgt := 55) hX dX7_windowOf_48 (by decide) (fun h48 => ?_) (fun h48 => ?_)
      · skip
        refine g_iconst hX dX7_windowOf_55 kn_i_0 ?_
        refine g_top (v' := bI false) rfl ?_
        exact g_to (J48 false (by rw [(decide_eq_true h48)] <;> rfl)) ⟨rfl, rfl, rfl, rfl, rfl, rfl, rfl, trivial⟩
      · skip
        refine g_iconst hX dX7_windowOf_51 kn_i_1 ?_
        refine g_goto (tgt := 56) hX dX7_windowOf_52 (by decide) ?_
        refine g_top (v' := bI true) rfl ?_
        exact g_to (J48 true (by rw [(decide_eq_false h48)] <;> rfl)) ⟨rfl, rfl, rfl, rfl, rfl, rfl, rfl, trivial⟩
  exact g_fin (loop9 0 (by omega) ) (rfl) rfl ⟨rfl, rfl, rfl, rfl, rfl, rfl, trivial⟩
set_option maxRecDepth 100000 in
set_option maxHeartbeats 4000000 in
theorem ct_X7_isStrange {l : Launch} {D : va_G} {a0 a1 a7 : Nat} {fs : List Value} {w q : Nat → Int32} {c d : Nat} (hf : fs[0]? = some (.ref a1)) (hg : fs[12]? = some (.ref a7)) (hc : c < 8) (hd : d < 8) : Cf l D yX7_isStrange cX7_isStrange 4 (some .boolean) 5 126 [.ref a0, .int (nI c), .int (nI d)] [(a0, .inr (8, fs)), (a1, .inl (D.1 100, 3318, .inl w)), (a7, .inl (D.1 100, 16, .inl q))] (some (.int (bI (strB w q c d)))) [(a0, .inr (8, fs)), (a1, .inl (D.1 100, 3318, .inl w)), (a7, .inl (D.1 100, 16, .inl q))] := by
  refine Ct.ofG (by decide) (Nat.le_of_ble_eq_true rfl) ?_
  intro X hX
  have hX : CX X l D RX7 "isStrange" cX7_isStrange 4 (some .boolean) 5 126 0 0 := hX
  show G X (QF X (some (.int (bI (strB w q c d)))) [(a0, .inr (8, fs)), (a1, .inl (D.1 100, 3318, .inl w)), (a7, .inl (D.1 100, 16, .inl q))]) [(a0, .inr (8, fs)), (a1, .inl (D.1 100, 3318, .inl w)), (a7, .inl (D.1 100, 16, .inl q))] 0 0 0 [some (.ref a0), some (.int (nI c)), some (.int (nI d)), none] []
  generalize hQ : QF X (some (.int (bI (strB w q c d)))) [(a0, .inr (8, fs)), (a1, .inl (D.1 100, 3318, .inl w)), (a7, .inl (D.1 100, 16, .inl q))] = Q
  refine g_aload_n hX dX7_isStrange_0 rfl ?_
  refine g_aload_n hX dX7_isStrange_1 rfl ?_
  refine g_getf hX dX7_isStrange_2 fk_X7_32 0 rfl hg ?_
  refine g_bipush hX dX7_isStrange_5 kn_b_8 ?_
  refine g_iload_n hX dX7_isStrange_7 rfl ?_
  refine g_iaddN hX dX7_isStrange_8 ?_
  refine g_iald hX dX7_isStrange_9 2 rfl (by decide) (by omega) ?_
  refine g_aload_n hX dX7_isStrange_10 rfl ?_
  refine g_getf hX dX7_isStrange_11 fk_X7_32 0 rfl hg ?_
  refine g_iload_n hX dX7_isStrange_14 rfl ?_
  refine g_iald hX dX7_isStrange_15 2 rfl (by decide) (by omega) ?_
  refine g_callRi hX dX7_isStrange_16 cw_X7_102 (ct_X7_windowOf  (by first | with_reducible assumption | rfl) (by first | with_reducible assumption | rfl)) 0 8 [0, 1, 2] rfl rfl rfl rfl (by decide) rfl ⟨by decide, by decide⟩ (Nat.le_of_ble_eq_true rfl) (Nat.le_refl _) (Nat.le_refl _) ?_
  refine g_istore_n (L' := [some (.ref a0), some (.int (nI c)), some (.int (nI d)), some (.int (windowOf w q (q (8 + c)) (q d)))]) hX dX7_isStrange_19 (by decide) rfl ?_
  refine g_aload_n hX dX7_isStrange_20 rfl ?_
  refine g_iload_n hX dX7_isStrange_21 rfl ?_
  refine g_iload_n hX dX7_isStrange_22 rfl ?_
  refine g_callRi hX dX7_isStrange_23 cw_X7_105 (ct_X7_judgedOf  (by first | with_reducible assumption | rfl) (by omega) (by omega)) 0 8 [0, 1] rfl rfl rfl rfl (by decide) rfl ⟨by decide, by decide⟩ (Nat.le_of_ble_eq_true rfl) (Nat.le_refl _) (Nat.le_refl _) ?_
  refine g_if_le (tgt := 58) hX dX7_isStrange_26 (by decide) (fun h26 => ?_) (fun h26 => ?_)
  · skip
    refine g_iconst hX dX7_isStrange_58 kn_i_0 ?_
    subst hQ
    exact g_zret false hX dX7_isStrange_59 (by decide) (bR (by simp [strB, *])) (rfl) rfl rfl
  · skip
    refine g_aload_n hX dX7_isStrange_29 rfl ?_
    refine g_iload_n hX dX7_isStrange_30 rfl ?_
    refine g_iload_n hX dX7_isStrange_31 rfl ?_
    refine g_callRi hX dX7_isStrange_32 cw_X7_105 (ct_X7_judgedOf  (by first | with_reducible assumption | rfl) (by omega) (by omega)) 0 8 [0, 1] rfl rfl rfl rfl (by decide) rfl ⟨by decide, by decide⟩ (Nat.le_of_ble_eq_true rfl) (Nat.le_refl _) (Nat.le_refl _) ?_
    refine g_i2l hX dX7_isStrange_35 ?_
    refine g_iload_n hX dX7_isStrange_36 rfl ?_
    refine g_i2l hX dX7_isStrange_37 ?_
    refine g_iload_n hX dX7_isStrange_38 rfl ?_
    refine g_iconst hX dX7_isStrange_39 kn_i_2 ?_
    refine g_aload_n hX dX7_isStrange_40 rfl ?_
    refine g_iconst hX dX7_isStrange_41 kn_i_1 ?_
    refine g_callRi hX dX7_isStrange_42 cw_X7_65 (ct_X7_termOf  (by first | with_reducible assumption | rfl) (by omega)) 0 8 [0, 1] rfl rfl rfl rfl (by decide) rfl ⟨by decide, by decide⟩ (Nat.le_of_ble_eq_true rfl) (Nat.le_refl _) (Nat.le_refl _) ?_
    refine g_imul hX dX7_isStrange_45 ?_
    refine g_iadd hX dX7_isStrange_46 ?_
    refine g_i2l hX dX7_isStrange_47 ?_
    refine g_callSRi hX dX7_isStrange_48 cw_X7_53 ct_X7_in [] rfl rfl (by decide) rfl ⟨by decide, by decide⟩ (Nat.le_of_ble_eq_true rfl) (Nat.le_refl _) (Nat.le_refl _) ?_
    refine g_ifb_ne (tgt := 58) hX dX7_isStrange_51 (by decide) (fun h51 => ?_) (fun h51 => ?_)
    · skip
      refine g_iconst hX dX7_isStrange_58 kn_i_0 ?_
      subst hQ
      exact g_zret false hX dX7_isStrange_59 (by decide) (bR (by simp [strB, *])) (rfl) rfl rfl
    · skip
      refine g_iconst hX dX7_isStrange_54 kn_i_1 ?_
      refine g_goto (tgt := 59) hX dX7_isStrange_55 (by decide) ?_
      subst hQ
      exact g_zret true hX dX7_isStrange_59 (by decide) (bR (by simp [strB, *])) (rfl) rfl rfl
set_option maxRecDepth 100000 in
set_option maxHeartbeats 4000000 in
theorem ct_X7_pairsIn {l : Launch} {D : va_G} {a0 a1 a7 : Nat} {fs : List Value} {w q : Nat → Int32} {i j : Int32} (hf : fs[0]? = some (.ref a1)) (hg : fs[12]? = some (.ref a7)) : Cf l D yX7_pairsIn cX7_pairsIn 5 (some .int) 3 70 [.ref a0, .int i, .int j] [(a0, .inr (8, fs)), (a1, .inl (D.1 100, 3318, .inl w)), (a7, .inl (D.1 100, 16, .inl q))] (some (.int (prC w q i j 64))) [(a0, .inr (8, fs)), (a1, .inl (D.1 100, 3318, .inl w)), (a7, .inl (D.1 100, 16, .inl q))] := by
  refine Ct.ofG (by decide) (Nat.le_of_ble_eq_true rfl) ?_
  intro X hX
  have hX : CX X l D RX7 "pairsIn" cX7_pairsIn 5 (some .int) 3 70 0 0 := hX
  show G X (QF X (some (.int (prC w q i j 64))) [(a0, .inr (8, fs)), (a1, .inl (D.1 100, 3318, .inl w)), (a7, .inl (D.1 100, 16, .inl q))]) [(a0, .inr (8, fs)), (a1, .inl (D.1 100, 3318, .inl w)), (a7, .inl (D.1 100, 16, .inl q))] 0 0 0 [some (.ref a0), some (.int i), some (.int j), none, none] []
  generalize hQ : QF X (some (.int (prC w q i j 64))) [(a0, .inr (8, fs)), (a1, .inl (D.1 100, 3318, .inl w)), (a7, .inl (D.1 100, 16, .inl q))] = Q
  refine g_iconst hX dX7_pairsIn_0 kn_i_0 ?_
  refine g_istore_n (L' := [some (.ref a0), some (.int i), some (.int j), some (.int (nI 0)), none]) hX dX7_pairsIn_1 (by decide) rfl ?_
  refine g_iconst hX dX7_pairsIn_2 kn_i_0 ?_
  refine g_istore (L' := [some (.ref a0), some (.int i), some (.int j), some (.int (nI 0)), some (.int (nI 0))]) hX dX7_pairsIn_3 (by decide) rfl ?_
  have loop5 : ∀ k : Nat, k ≤ 64 → G X Q [(a0, .inr (8, fs)), (a1, .inl (D.1 100, 3318, .inl w)), (a7, .inl (D.1 100, 16, .inl q))] 0 0 5 [some (.ref a0), some (.int i), some (.int j), some (.int (prC w q i j k)), some (.int (nI k))] [] := by
    refine loopN 64 (fun k hh5 ih5 => ?_)
    refine g_iload hX dX7_pairsIn_5 rfl ?_
    refine g_bipush hX dX7_pairsIn_7 kn_b_64 ?_
    refine g_icmpN_ge (tgt := 45) hX dX7_pairsIn_9 (by decide) (by omega) (by omega) (fun h9 => ?_) (fun h9 => ?_)
    · skip
      obtain rfl : k = 64 := by omega
      refine g_iload_n hX dX7_pairsIn_45 rfl ?_
      subst hQ
      exact g_iret hX dX7_pairsIn_46 (rfl) (rfl) rfl rfl
    · skip
      refine g_iload_n hX dX7_pairsIn_12 rfl ?_
      refine g_aload_n hX dX7_pairsIn_13 rfl ?_
      refine g_iload hX dX7_pairsIn_14 rfl ?_
      refine g_bipush hX dX7_pairsIn_16 kn_b_8 ?_
      refine g_idivN hX dX7_pairsIn_18 (by omega) (by omega) (by omega) ?_
      refine g_iload hX dX7_pairsIn_19 rfl ?_
      refine g_bipush hX dX7_pairsIn_21 kn_b_8 ?_
      refine g_iremN hX dX7_pairsIn_23 (by omega) (by omega) (by omega) ?_
      refine g_iload_n hX dX7_pairsIn_24 rfl ?_
      refine g_iload_n hX dX7_pairsIn_25 rfl ?_
      refine g_callRi hX dX7_pairsIn_26 cw_X7_94 (ct_X7_isIn  (by first | with_reducible assumption | rfl) (by first | with_reducible assumption | rfl) (by omega) (by omega)) 0 8 [0, 1, 2] rfl rfl rfl rfl (by decide) rfl ⟨by decide, by decide⟩ (Nat.le_of_ble_eq_true rfl) (Nat.le_refl _) (Nat.le_refl _) ?_
      have J29 : ∀ (v29_0 : Bool), (v29_0 = (isInB w q (k / 8) (k % 8) i j)) → G X Q [(a0, .inr (8, fs)), (a1, .inl (D.1 100, 3318, .inl w)), (a7, .inl (D.1 100, 16, .inl q))] 0 0 37 [some (.ref a0), some (.int i), some (.int j), some (.int (prC w q i j k)), some (.int (nI k))] [.int (bI v29_0), .int (prC w q i j k)] := by
        intro v29_0 ev29_0
        subst ev29_0
        refine g_iadd hX dX7_pairsIn_37 ?_
        refine g_istore_n (L' := [some (.ref a0), some (.int i), some (.int j), some (.int ((prC w q i j k) + (bI (isInB w q (k / 8) (k % 8) i j)))), some (.int (nI k))]) hX dX7_pairsIn_38 (by decide) rfl ?_
        refine g_iincN (L' := [some (.ref a0), some (.int i), some (.int j), some (.int ((prC w q i j k) + (bI (isInB w q (k / 8) (k % 8) i j)))), some (.int (nI (k + 1)))]) hX dX7_pairsIn_39 rfl (by decide) rfl ?_
        refine g_goto (tgt := 5) hX dX7_pairsIn_42 (by decide) ?_
        exact g_fin (ih5 (by omega) ) (rfl) rfl ⟨rfl, rfl, rfl, rfl, rfl, trivial⟩
      refine g_ifb_eq (tgt := 36) hX dX7_pairsIn_29 (by decide) (fun h29 => ?_) (fun h29 => ?_)
      · skip
        refine g_iconst hX dX7_pairsIn_36 kn_i_0 ?_
        refine g_top (v' := bI false) rfl ?_
        exact g_to (J29 false (by rw [h29] <;> rfl)) ⟨rfl, rfl, rfl, rfl, rfl, trivial⟩
      · skip
        refine g_iconst hX dX7_pairsIn_32 kn_i_1 ?_
        refine g_goto (tgt := 37) hX dX7_pairsIn_33 (by decide) ?_
        refine g_top (v' := bI true) rfl ?_
        exact g_to (J29 true (by rw [h29] <;> rfl)) ⟨rfl, rfl, rfl, rfl, rfl, trivial⟩
  exact g_fin (loop5 0 (by omega) ) (rfl) rfl ⟨rfl, rfl, rfl, rfl, rfl, trivial⟩
set_option maxRecDepth 100000 in
set_option maxHeartbeats 4000000 in
theorem ct_X7_keptIn {l : Launch} {D : va_G} {a0 a1 a7 : Nat} {fs : List Value} {w q : Nat → Int32} {i j : Int32} (hf : fs[0]? = some (.ref a1)) (hg : fs[12]? = some (.ref a7)) : Cf l D yX7_keptIn cX7_keptIn 4 (some .int) 5 126 [.ref a0, .int i, .int j] [(a0, .inr (8, fs)), (a1, .inl (D.1 100, 3318, .inl w)), (a7, .inl (D.1 100, 16, .inl q))] (some (.int (keptOf w q i j))) [(a0, .inr (8, fs)), (a1, .inl (D.1 100, 3318, .inl w)), (a7, .inl (D.1 100, 16, .inl q))] := by
  refine Ct.ofG (by decide) (Nat.le_of_ble_eq_true rfl) ?_
  intro X hX
  have hX : CX X l D RX7 "keptIn" cX7_keptIn 4 (some .int) 5 126 0 0 := hX
  show G X (QF X (some (.int (keptOf w q i j))) [(a0, .inr (8, fs)), (a1, .inl (D.1 100, 3318, .inl w)), (a7, .inl (D.1 100, 16, .inl q))]) [(a0, .inr (8, fs)), (a1, .inl (D.1 100, 3318, .inl w)), (a7, .inl (D.1 100, 16, .inl q))] 0 0 0 [some (.ref a0), some (.int i), some (.int j), none] []
  generalize hQ : QF X (some (.int (keptOf w q i j))) [(a0, .inr (8, fs)), (a1, .inl (D.1 100, 3318, .inl w)), (a7, .inl (D.1 100, 16, .inl q))] = Q
  refine g_aload_n hX dX7_keptIn_0 rfl ?_
  refine g_iload_n hX dX7_keptIn_1 rfl ?_
  refine g_iload_n hX dX7_keptIn_2 rfl ?_
  refine g_callRi hX dX7_keptIn_3 cw_X7_102 (ct_X7_windowOf  (by first | with_reducible assumption | rfl) (by first | with_reducible assumption | rfl)) 0 8 [0, 1, 2] rfl rfl rfl rfl (by decide) rfl ⟨by decide, by decide⟩ (Nat.le_of_ble_eq_true rfl) (Nat.le_refl _) (Nat.le_refl _) ?_
  refine g_istore_n (L' := [some (.ref a0), some (.int i), some (.int j), some (.int (windowOf w q i j))]) hX dX7_keptIn_6 (by decide) rfl ?_
  refine g_aload_n hX dX7_keptIn_7 rfl ?_
  refine g_iload_n hX dX7_keptIn_8 rfl ?_
  refine g_iload_n hX dX7_keptIn_9 rfl ?_
  refine g_iload_n hX dX7_keptIn_10 rfl ?_
  refine g_iload_n hX dX7_keptIn_11 rfl ?_
  refine g_iconst hX dX7_keptIn_12 kn_i_2 ?_
  refine g_aload_n hX dX7_keptIn_13 rfl ?_
  refine g_iconst hX dX7_keptIn_14 kn_i_1 ?_
  refine g_callRi hX dX7_keptIn_15 cw_X7_65 (ct_X7_termOf  (by first | with_reducible assumption | rfl) (by omega)) 0 8 [0, 1] rfl rfl rfl rfl (by decide) rfl ⟨by decide, by decide⟩ (Nat.le_of_ble_eq_true rfl) (Nat.le_refl _) (Nat.le_refl _) ?_
  refine g_imul hX dX7_keptIn_18 ?_
  refine g_iadd hX dX7_keptIn_19 ?_
  refine g_iconst hX dX7_keptIn_20 kn_i_0 ?_
  refine g_callRi hX dX7_keptIn_21 cw_X7_98 (ct_X7_window_0  (by first | with_reducible assumption | rfl) (by first | with_reducible assumption | rfl)) 0 8 [0, 1, 2] rfl rfl rfl rfl (by decide) rfl ⟨by decide, by decide⟩ (Nat.le_of_ble_eq_true rfl) (Nat.le_refl _) (Nat.le_refl _) ?_
  subst hQ
  exact g_iret hX dX7_keptIn_24 (rfl) (rfl) rfl rfl
