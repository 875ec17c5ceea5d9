set_option maxRecDepth 100000 in
set_option maxHeartbeats 4000000 in
theorem ct_X7_in {l : Launch} {D : va_G} {v lo hi : Int64}  : Cf l D yX7_in cX7_in 6 (some .boolean) 0 0 [.long v, .long lo, .long hi] [] (some (.int (bI (inB v lo hi)))) [] := by
  refine Ct.ofG (by decide) (Nat.le_of_ble_eq_true rfl) ?_
  intro X hX
  have hX : CX X l D RX7 "in" cX7_in 6 (some .boolean) 0 0 0 0 := hX
  show G X (QF X (some (.int (bI (inB v lo hi)))) []) [] 0 0 0 [some (.long v), none, some (.long lo), none, some (.long hi), none] []
  generalize hQ : QF X (some (.int (bI (inB v lo hi)))) [] = Q
  refine g_lload_n hX dX7_in_0 rfl ?_
  refine g_lload_n hX dX7_in_1 rfl ?_
  refine g_lcmp hX dX7_in_2 ?_
  refine g_if_lt (tgt := 17) hX dX7_in_3 (by decide) (fun h3 => ?_) (fun h3 => ?_)
  · skip
    refine g_iconst hX dX7_in_17 kn_i_0 ?_
    subst hQ
    exact g_zret false hX dX7_in_18 (by decide) (bR (by simp only [lg_cmp_lt, lg_cmp_gt, Int64.lt_iff_toInt_lt, Int64.le_iff_toInt_le, inB] at *; grind)) (rfl) rfl rfl
  · skip
    refine g_lload_n hX dX7_in_6 rfl ?_
    refine g_lload hX dX7_in_7 rfl ?_
    refine g_lcmp hX dX7_in_9 ?_
    refine g_if_gt (tgt := 17) hX dX7_in_10 (by decide) (fun h10 => ?_) (fun h10 => ?_)
    · skip
      refine g_iconst hX dX7_in_17 kn_i_0 ?_
      subst hQ
      exact g_zret false hX dX7_in_18 (by decide) (bR (by simp only [lg_cmp_lt, lg_cmp_gt, Int64.lt_iff_toInt_lt, Int64.le_iff_toInt_le, inB] at *; grind)) (rfl) rfl rfl
    · skip
      refine g_iconst hX dX7_in_13 kn_i_1 ?_
      refine g_goto (tgt := 18) hX dX7_in_14 (by decide) ?_
      subst hQ
      exact g_zret true hX dX7_in_18 (by decide) (bR (by simp only [lg_cmp_lt, lg_cmp_gt, Int64.lt_iff_toInt_lt, Int64.le_iff_toInt_le, inB] at *; grind)) (rfl) rfl rfl
set_option maxRecDepth 100000 in
set_option maxHeartbeats 4000000 in
theorem ct_X7_has {l : Launch} {D : va_G} {k c : Int32}  : Cf l D yX7_has cX7_has 2 (some .boolean) 0 0 [.int k, .int c] [] (some (.int (bI (hasB k c)))) [] := by
  refine Ct.ofG (by decide) (Nat.le_of_ble_eq_true rfl) ?_
  intro X hX
  have hX : CX X l D RX7 "has" cX7_has 2 (some .boolean) 0 0 0 0 := hX
  show G X (QF X (some (.int (bI (hasB k c)))) []) [] 0 0 0 [some (.int k), some (.int c)] []
  generalize hQ : QF X (some (.int (bI (hasB k c)))) [] = Q
  refine g_iload_n hX dX7_has_0 rfl ?_
  refine g_iload_n hX dX7_has_1 rfl ?_
  refine g_ishr hX dX7_has_2 ?_
  refine g_iconst hX dX7_has_3 kn_i_1 ?_
  refine g_iand hX dX7_has_4 ?_
  refine g_iconst hX dX7_has_5 kn_i_1 ?_
  refine g_icmp_ne (tgt := 13) hX dX7_has_6 (by decide) (fun h6 => ?_) (fun h6 => ?_)
  · skip
    refine g_iconst hX dX7_has_13 kn_i_0 ?_
    subst hQ
    exact g_zret false hX dX7_has_14 (by decide) (bR (by simp [hasB, h6])) (rfl) rfl rfl
  · skip
    refine g_iconst hX dX7_has_9 kn_i_1 ?_
    refine g_goto (tgt := 14) hX dX7_has_10 (by decide) ?_
    subst hQ
    exact g_zret true hX dX7_has_14 (by decide) (bR (by simp [hasB, h6])) (rfl) rfl rfl
set_option maxRecDepth 100000 in
set_option maxHeartbeats 4000000 in
theorem ct_X7_termOf {l : Launch} {D : va_G} {a0 a1 : Nat} {fs : List Value} {w : Nat → Int32} {k : Nat} (hf : fs[0]? = some (.ref a1)) (hk : k < 5) : Cf l D yX7_termOf cX7_termOf 2 (some .int) 0 0 [.ref a0, .int (nI k)] [(a0, .inr (8, fs)), (a1, .inl (D.1 100, 3318, .inl w))] (some (.int (w (1 + k)))) [(a0, .inr (8, fs)), (a1, .inl (D.1 100, 3318, .inl w))] := by
  refine Ct.ofG (by decide) (Nat.le_of_ble_eq_true rfl) ?_
  intro X hX
  have hX : CX X l D RX7 "termOf" cX7_termOf 2 (some .int) 0 0 0 0 := hX
  show G X (QF X (some (.int (w (1 + k)))) [(a0, .inr (8, fs)), (a1, .inl (D.1 100, 3318, .inl w))]) [(a0, .inr (8, fs)), (a1, .inl (D.1 100, 3318, .inl w))] 0 0 0 [some (.ref a0), some (.int (nI k))] []
  generalize hQ : QF X (some (.int (w (1 + k)))) [(a0, .inr (8, fs)), (a1, .inl (D.1 100, 3318, .inl w))] = Q
  refine g_aload_n hX dX7_termOf_0 rfl ?_
  refine g_getf hX dX7_termOf_1 fk_X7_7 0 rfl hf ?_
  refine g_iconst hX dX7_termOf_4 kn_i_1 ?_
  refine g_iload_n hX dX7_termOf_5 rfl ?_
  refine g_iaddN hX dX7_termOf_6 ?_
  refine g_iald hX dX7_termOf_7 1 rfl (by decide) (by omega) ?_
  subst hQ
  exact g_iret hX dX7_termOf_8 (rfl) (rfl) rfl rfl
set_option maxRecDepth 100000 in
set_option maxHeartbeats 4000000 in
theorem ct_X7_isKnown {l : Launch} {D : va_G} {a0 a1 : Nat} {fs : List Value} {w : Nat → Int32} {c : Int32} (hf : fs[0]? = some (.ref a1)) : Cf l D yX7_isKnown cX7_isKnown 2 (some .boolean) 1 25 [.ref a0, .int c] [(a0, .inr (8, fs)), (a1, .inl (D.1 100, 3318, .inl w))] (some (.int (bI (isKn (w 0) c)))) [(a0, .inr (8, fs)), (a1, .inl (D.1 100, 3318, .inl w))] := by
  refine Ct.ofG (by decide) (Nat.le_of_ble_eq_true rfl) ?_
  intro X hX
  have hX : CX X l D RX7 "isKnown" cX7_isKnown 2 (some .boolean) 1 25 0 0 := hX
  show G X (QF X (some (.int (bI (isKn (w 0) c)))) [(a0, .inr (8, fs)), (a1, .inl (D.1 100, 3318, .inl w))]) [(a0, .inr (8, fs)), (a1, .inl (D.1 100, 3318, .inl w))] 0 0 0 [some (.ref a0), some (.int c)] []
  generalize hQ : QF X (some (.int (bI (isKn (w 0) c)))) [(a0, .inr (8, fs)), (a1, .inl (D.1 100, 3318, .inl w))] = Q
  refine g_iload_n hX dX7_isKnown_0 rfl ?_
  refine g_i2l hX dX7_isKnown_1 ?_
  refine g_lconst (v := 0) hX dX7_isKnown_2 rfl ?_
  refine g_ldc2 hX dX7_isKnown_3 kc_X7_51 ?_
  refine g_callSRi hX dX7_isKnown_6 cw_X7_53 ct_X7_in [] rfl rfl (by decide) rfl ⟨by decide, by decide⟩ (Nat.le_of_ble_eq_true rfl) (Nat.le_refl _) (Nat.le_refl _) ?_
  refine g_ifb_eq (tgt := 29) hX dX7_isKnown_9 (by decide) (fun h9 => ?_) (fun h9 => ?_)
  · skip
    refine g_iconst hX dX7_isKnown_29 kn_i_0 ?_
    subst hQ
    exact g_zret false hX dX7_isKnown_30 (by decide) (bR (by simp [isKn, *])) (rfl) rfl rfl
  · skip
    refine g_aload_n hX dX7_isKnown_12 rfl ?_
    refine g_getf hX dX7_isKnown_13 fk_X7_7 0 rfl hf ?_
    refine g_iconst hX dX7_isKnown_16 kn_i_0 ?_
    refine g_iald hX dX7_isKnown_17 1 rfl (by decide) (by omega) ?_
    refine g_iload_n hX dX7_isKnown_18 rfl ?_
    refine g_callSRi hX dX7_isKnown_19 cw_X7_57 ct_X7_has [] rfl rfl (by decide) rfl ⟨by decide, by decide⟩ (Nat.le_of_ble_eq_true rfl) (Nat.le_refl _) (Nat.le_refl _) ?_
    refine g_ifb_eq (tgt := 29) hX dX7_isKnown_22 (by decide) (fun h22 => ?_) (fun h22 => ?_)
    · skip
      refine g_iconst hX dX7_isKnown_29 kn_i_0 ?_
      subst hQ
      exact g_zret false hX dX7_isKnown_30 (by decide) (bR (by simp [isKn, *])) (rfl) rfl rfl
    · skip
      refine g_iconst hX dX7_isKnown_25 kn_i_1 ?_
      refine g_goto (tgt := 30) hX dX7_isKnown_26 (by decide) ?_
      subst hQ
      exact g_zret true hX dX7_isKnown_30 (by decide) (bR (by simp [isKn, *])) (rfl) rfl rfl
theorem ct_X7_isKnown_N {l : Launch} {D : va_G} {a0 a1 : Nat} {fs : List Value} {w : Nat → Int32} {j : Nat} (hf : fs[0]? = some (.ref a1)) (hj : j < 8) : Cf l D yX7_isKnown cX7_isKnown 2 (some .boolean) 1 25 [.ref a0, .int (nI j)] [(a0, .inr (8, fs)), (a1, .inl (D.1 100, 3318, .inl w))] (some (.int (bI (kn (w 0) j)))) [(a0, .inr (8, fs)), (a1, .inl (D.1 100, 3318, .inl w))] := by
  have h := ct_X7_isKnown (l := l) (D := D) (a0 := a0) (w := w) (c := nI j) hf
  rw [isKn_n hj] at h
  exact h
set_option maxRecDepth 100000 in
set_option maxHeartbeats 4000000 in
theorem ct_X7_edgeOf {l : Launch} {D : va_G} {a0 a1 : Nat} {fs : List Value} {w : Nat → Int32} {c side h : Nat} (hf : fs[0]? = some (.ref a1)) (hc : c < 8) (hs : side < 2) (hh : h < 5) : Cf l D yX7_edgeOf cX7_edgeOf 4 (some .int) 0 0 [.ref a0, .int (nI c), .int (nI side), .int (nI h)] [(a0, .inr (8, fs)), (a1, .inl (D.1 100, 3318, .inl w))] (some (.int (w (6 + 40 * side + 5 * c + h)))) [(a0, .inr (8, fs)), (a1, .inl (D.1 100, 3318, .inl w))] := by
  refine Ct.ofG (by decide) (Nat.le_of_ble_eq_true rfl) ?_
  intro X hX
  have hX : CX X l D RX7 "edgeOf" cX7_edgeOf 4 (some .int) 0 0 0 0 := hX
  show G X (QF X (some (.int (w (6 + 40 * side + 5 * c + h)))) [(a0, .inr (8, fs)), (a1, .inl (D.1 100, 3318, .inl w))]) [(a0, .inr (8, fs)), (a1, .inl (D.1 100, 3318, .inl w))] 0 0 0 [some (.ref a0), some (.int (nI c)), some (.int (nI side)), some (.int (nI h))] []
  generalize hQ : QF X (some (.int (w (6 + 40 * side + 5 * c + h)))) [(a0, .inr (8, fs)), (a1, .inl (D.1 100, 3318, .inl w))] = Q
  refine g_aload_n hX dX7_edgeOf_0 rfl ?_
  refine g_getf hX dX7_edgeOf_1 fk_X7_7 0 rfl hf ?_
  refine g_bipush hX dX7_edgeOf_4 kn_b_6 ?_
  refine g_bipush hX dX7_edgeOf_6 kn_b_40 ?_
  refine g_iload_n hX dX7_edgeOf_8 rfl ?_
  refine g_imulN hX dX7_edgeOf_9 ?_
  refine g_iaddN hX dX7_edgeOf_10 ?_
  refine g_iconst hX dX7_edgeOf_11 kn_i_5 ?_
  refine g_iload_n hX dX7_edgeOf_12 rfl ?_
  refine g_imulN hX dX7_edgeOf_13 ?_
  refine g_iaddN hX dX7_edgeOf_14 ?_
  refine g_iload_n hX dX7_edgeOf_15 rfl ?_
  refine g_iaddN hX dX7_edgeOf_16 ?_
  refine g_iald hX dX7_edgeOf_17 1 rfl (by decide) (by omega) ?_
  subst hQ
  exact g_iret hX dX7_edgeOf_18 (rfl) (rfl) rfl rfl
set_option maxRecDepth 100000 in
set_option maxHeartbeats 4000000 in
theorem ct_X7_judgedOf {l : Launch} {D : va_G} {a0 a1 : Nat} {fs : List Value} {w : Nat → Int32} {c d : Nat} (hf : fs[0]? = some (.ref a1)) (hc : c < 8) (hd : d < 8) : Cf l D yX7_judgedOf cX7_judgedOf 3 (some .int) 0 0 [.ref a0, .int (nI c), .int (nI d)] [(a0, .inr (8, fs)), (a1, .inl (D.1 100, 3318, .inl w))] (some (.int (w (94 + 8 * c + d)))) [(a0, .inr (8, fs)), (a1, .inl (D.1 100, 3318, .inl w))] := by
  refine Ct.ofG (by decide) (Nat.le_of_ble_eq_true rfl) ?_
  intro X hX
  have hX : CX X l D RX7 "judgedOf" cX7_judgedOf 3 (some .int) 0 0 0 0 := hX
  show G X (QF X (some (.int (w (94 + 8 * c + d)))) [(a0, .inr (8, fs)), (a1, .inl (D.1 100, 3318, .inl w))]) [(a0, .inr (8, fs)), (a1, .inl (D.1 100, 3318, .inl w))] 0 0 0 [some (.ref a0), some (.int (nI c)), some (.int (nI d))] []
  generalize hQ : QF X (some (.int (w (94 + 8 * c + d)))) [(a0, .inr (8, fs)), (a1, .inl (D.1 100, 3318, .inl w))] = Q
  refine g_aload_n hX dX7_judgedOf_0 rfl ?_
  refine g_getf hX dX7_judgedOf_1 fk_X7_7 0 rfl hf ?_
  refine g_bipush hX dX7_judgedOf_4 kn_b_94 ?_
  refine g_bipush hX dX7_judgedOf_6 kn_b_8 ?_
  refine g_iload_n hX dX7_judgedOf_8 rfl ?_
  refine g_imulN hX dX7_judgedOf_9 ?_
  refine g_iaddN hX dX7_judgedOf_10 ?_
  refine g_iload_n hX dX7_judgedOf_11 rfl ?_
  refine g_iaddN hX dX7_judgedOf_12 ?_
  refine g_iald hX dX7_judgedOf_13 1 rfl (by decide) (by omega) ?_
  subst hQ
  exact g_iret hX dX7_judgedOf_14 (rfl) (rfl) rfl rfl
set_option maxRecDepth 100000 in
set_option maxHeartbeats 4000000 in
theorem ct_X7_farOf {l : Launch} {D : va_G} {a0 a1 : Nat} {fs : List Value} {w : Nat → Int32} {c d side : Nat} (hf : fs[0]? = some (.ref a1)) (hc : c < 8) (hd : d < 8) (hs : side < 2) : Cf l D yX7_farOf cX7_farOf 9 (some .int) 1 23 [.ref a0, .int (nI c), .int (nI d), .int (nI side)] [(a0, .inr (8, fs)), (a1, .inl (D.1 100, 3318, .inl w))] (some (.int (farOf w c d side))) [(a0, .inr (8, fs)), (a1, .inl (D.1 100, 3318, .inl w))] := by
  refine Ct.ofG (by decide) (Nat.le_of_ble_eq_true rfl) ?_
  intro X hX
  have hX : CX X l D RX7 "farOf" cX7_farOf 9 (some .int) 1 23 0 0 := hX
  show G X (QF X (some (.int (farOf w c d side))) [(a0, .inr (8, fs)), (a1, .inl (D.1 100, 3318, .inl w))]) [(a0, .inr (8, fs)), (a1, .inl (D.1 100, 3318, .inl w))] 0 0 0 [some (.ref a0), some (.int (nI c)), some (.int (nI d)), some (.int (nI side)), none, none, none, none, none] []
  generalize hQ : QF X (some (.int (farOf w c d side))) [(a0, .inr (8, fs)), (a1, .inl (D.1 100, 3318, .inl w))] = Q
  refine g_iconst hX dX7_farOf_0 kn_i_0 ?_
  refine g_istore (L' := [some (.ref a0), some (.int (nI c)), some (.int (nI d)), some (.int (nI side)), some (.int (nI 0)), none, none, none, none]) hX dX7_farOf_1 (by decide) rfl ?_
  refine g_iconst hX dX7_farOf_3 kn_i_0 ?_
  refine g_istore (L' := [some (.ref a0), some (.int (nI c)), some (.int (nI d)), some (.int (nI side)), some (.int (nI 0)), some (.int (nI 0)), none, none, none]) hX dX7_farOf_4 (by decide) rfl ?_
  refine g_iconst hX dX7_farOf_6 kn_i_0 ?_
  refine g_istore (L' := [some (.ref a0), some (.int (nI c)), some (.int (nI d)), some (.int (nI side)), some (.int (nI 0)), some (.int (nI 0)), some (.int (nI 0)), none, none]) hX dX7_farOf_7 (by decide) rfl ?_
  refine g_iconst hX dX7_farOf_9 kn_i_0 ?_
  refine g_istore (L' := [some (.ref a0), some (.int (nI c)), some (.int (nI d)), some (.int (nI side)), some (.int (nI 0)), some (.int (nI 0)), some (.int (nI 0)), some (.int (nI 0)), none]) hX dX7_farOf_10 (by decide) rfl ?_
  have loop12 : ∀ h : Nat, h ≤ 5 → G X Q [(a0, .inr (8, fs)), (a1, .inl (D.1 100, 3318, .inl w))] 0 0 12 [some (.ref a0), some (.int (nI c)), some (.int (nI d)), some (.int (nI side)), some (.int (fSum w c d side h)), some (.int (fMost w c d side h)), some (.int (fSq w c d side h)), some (.int (nI h)), none] [] := by
    refine loopN 5 (fun h hh12 ih12 => ?_)
    refine g_iload hX dX7_farOf_12 rfl ?_
    refine g_iconst hX dX7_farOf_14 kn_i_5 ?_
    refine g_icmpN_ge (tgt := 91) hX dX7_farOf_15 (by decide) (by omega) (by omega) (fun h15 => ?_) (fun h15 => ?_)
    · skip
      obtain rfl : h = 5 := by omega
      refine g_aload_n hX dX7_farOf_91 rfl ?_
      refine g_iconst hX dX7_farOf_92 kn_i_4 ?_
      refine g_callRi hX dX7_farOf_93 cw_X7_65 (ct_X7_termOf  (by first | with_reducible assumption | rfl) (by omega)) 0 8 [0, 1] rfl rfl rfl rfl (by decide) rfl ⟨by decide, by decide⟩ (Nat.le_of_ble_eq_true rfl) (Nat.le_refl _) (Nat.le_refl _) ?_
      have J96 : ∀ (v96_0 : Int32), (v96_0 = (if (w (1 + 4)) = 0 then (fSum w c d side 5) else (if (w (1 + 4)) = (nI 1) then (fMost w c d side 5) else (fSq w c d side 5)))) → G X Q [(a0, .inr (8, fs)), (a1, .inl (D.1 100, 3318, .inl w))] 0 0 120 [some (.ref a0), some (.int (nI c)), some (.int (nI d)), some (.int (nI side)), some (.int (fSum w c d side 5)), some (.int (fMost w c d side 5)), some (.int (fSq w c d side 5)), some (.int (nI 5)), none] [.int v96_0] := by
        intro v96_0 ev96_0
        subst ev96_0
        subst hQ
        exact g_iret hX dX7_farOf_120 (rfl) (rfl) rfl rfl
      refine g_if_ne (tgt := 104) hX dX7_farOf_96 (by decide) (fun h96 => ?_) (fun h96 => ?_)
      · skip
        refine g_aload_n hX dX7_farOf_104 rfl ?_
        refine g_iconst hX dX7_farOf_105 kn_i_4 ?_
        refine g_callRi hX dX7_farOf_106 cw_X7_65 (ct_X7_termOf  (by first | with_reducible assumption | rfl) (by omega)) 0 8 [0, 1] rfl rfl rfl rfl (by decide) rfl ⟨by decide, by decide⟩ (Nat.le_of_ble_eq_true rfl) (Nat.le_refl _) (Nat.le_refl _) ?_
        refine g_iconst hX dX7_farOf_109 kn_i_1 ?_
        have J110 : ∀ (v110_0 : Int32), (v110_0 = (if (w (1 + 4)) = (nI 1) then (fMost w c d side 5) else (fSq w c d side 5))) → G X Q [(a0, .inr (8, fs)), (a1, .inl (D.1 100, 3318, .inl w))] 0 0 120 [some (.ref a0), some (.int (nI c)), some (.int (nI d)), some (.int (nI side)), some (.int (fSum w c d side 5)), some (.int (fMost w c d side 5)), some (.int (fSq w c d side 5)), some (.int (nI 5)), none] [.int v110_0] := by
          intro v110_0 ev110_0
          subst ev110_0
          exact g_to (J96 (if (w (1 + 4)) = (nI 1) then (fMost w c d side 5) else (fSq w c d side 5)) (if_neg h96).symm) ⟨rfl, rfl, rfl, rfl, rfl, rfl, rfl, rfl, trivial⟩
        refine g_icmp_ne (tgt := 118) hX dX7_farOf_110 (by decide) (fun h110 => ?_) (fun h110 => ?_)
        · skip
          refine g_iload hX dX7_farOf_118 rfl ?_
          exact g_to (J110 (fSq w c d side 5) (if_neg h110).symm) ⟨rfl, rfl, rfl, rfl, rfl, rfl, rfl, rfl, trivial⟩
        · skip
          refine g_iload hX dX7_farOf_113 rfl ?_
          refine g_goto (tgt := 120) hX dX7_farOf_115 (by decide) ?_
          exact g_to (J110 (fMost w c d side 5) (if_pos h110).symm) ⟨rfl, rfl, rfl, rfl, rfl, rfl, rfl, rfl, trivial⟩
      · skip
        refine g_iload hX dX7_farOf_99 rfl ?_
        refine g_goto (tgt := 120) hX dX7_farOf_101 (by decide) ?_
        exact g_to (J96 (fSum w c d side 5) (if_pos h96).symm) ⟨rfl, rfl, rfl, rfl, rfl, rfl, rfl, rfl, trivial⟩
    · skip
      refine g_aload_n hX dX7_farOf_18 rfl ?_
      refine g_iload_n hX dX7_farOf_19 rfl ?_
      refine g_iload_n hX dX7_farOf_20 rfl ?_
      refine g_iload hX dX7_farOf_21 rfl ?_
      refine g_callRi hX dX7_farOf_23 cw_X7_61 (ct_X7_edgeOf  (by first | with_reducible assumption | rfl) (by omega) (by omega) (by omega)) 0 8 [0, 1] rfl rfl rfl rfl (by decide) rfl ⟨by decide, by decide⟩ (Nat.le_of_ble_eq_true rfl) (Nat.le_refl _) (Nat.le_refl _) ?_
      refine g_aload_n hX dX7_farOf_26 rfl ?_
      refine g_iload_n hX dX7_farOf_27 rfl ?_
      refine g_iload_n hX dX7_farOf_28 rfl ?_
      refine g_iload hX dX7_farOf_29 rfl ?_
      refine g_callRi hX dX7_farOf_31 cw_X7_61 (ct_X7_edgeOf  (by first | with_reducible assumption | rfl) (by omega) (by omega) (by omega)) 0 8 [0, 1] rfl rfl rfl rfl (by decide) rfl ⟨by decide, by decide⟩ (Nat.le_of_ble_eq_true rfl) (Nat.le_refl _) (Nat.le_refl _) ?_
      refine g_isub hX dX7_farOf_34 ?_
      refine g_istore (L' := [some (.ref a0), some (.int (nI c)), some (.int (nI d)), some (.int (nI side)), some (.int (fSum w c d side h)), some (.int (fMost w c d side h)), some (.int (fSq w c d side h)), some (.int (nI h)), some (.int ((w (6 + 40 * side + 5 * c + h)) - (w (6 + 40 * side + 5 * d + h))))]) hX dX7_farOf_35 (by decide) rfl ?_
      refine g_iload hX dX7_farOf_37 rfl ?_
      have J39 : ∀ (v39_0 : Int32), (v39_0 = (if 0 ≤ ((w (6 + 40 * side + 5 * c + h)) - (w (6 + 40 * side + 5 * d + h))) then ((w (6 + 40 * side + 5 * c + h)) - (w (6 + 40 * side + 5 * d + h))) else (-((w (6 + 40 * side + 5 * c + h)) - (w (6 + 40 * side + 5 * d + h)))))) → G X Q [(a0, .inr (8, fs)), (a1, .inl (D.1 100, 3318, .inl w))] 0 0 50 [some (.ref a0), some (.int (nI c)), some (.int (nI d)), some (.int (nI side)), some (.int (fSum w c d side h)), some (.int (fMost w c d side h)), some (.int (fSq w c d side h)), some (.int (nI h)), some (.int ((w (6 + 40 * side + 5 * c + h)) - (w (6 + 40 * side + 5 * d + h))))] [.int v39_0] := by
        intro v39_0 ev39_0
        subst ev39_0
        refine g_istore (L' := [some (.ref a0), some (.int (nI c)), some (.int (nI d)), some (.int (nI side)), some (.int (fSum w c d side h)), some (.int (fMost w c d side h)), some (.int (fSq w c d side h)), some (.int (nI h)), some (.int (if 0 ≤ ((w (6 + 40 * side + 5 * c + h)) - (w (6 + 40 * side + 5 * d + h))) then ((w (6 + 40 * side + 5 * c + h)) - (w (6 + 40 * side + 5 * d + h))) else (-((w (6 + 40 * side + 5 * c + h)) - (w (6 + 40 * side + 5 * d + h))))))]) hX dX7_farOf_50 (by decide) rfl ?_
        refine g_iload hX dX7_farOf_52 rfl ?_
        refine g_iload hX dX7_farOf_54 rfl ?_
        refine g_iadd hX dX7_farOf_56 ?_
        refine g_istore (L' := [some (.ref a0), some (.int (nI c)), some (.int (nI d)), some (.int (nI side)), some (.int ((fSum w c d side h) + (if 0 ≤ ((w (6 + 40 * side + 5 * c + h)) - (w (6 + 40 * side + 5 * d + h))) then ((w (6 + 40 * side + 5 * c + h)) - (w (6 + 40 * side + 5 * d + h))) else (-((w (6 + 40 * side + 5 * c + h)) - (w (6 + 40 * side + 5 * d + h))))))), some (.int (fMost w c d side h)), some (.int (fSq w c d side h)), some (.int (nI h)), some (.int (if 0 ≤ ((w (6 + 40 * side + 5 * c + h)) - (w (6 + 40 * side + 5 * d + h))) then ((w (6 + 40 * side + 5 * c + h)) - (w (6 + 40 * side + 5 * d + h))) else (-((w (6 + 40 * side + 5 * c + h)) - (w (6 + 40 * side + 5 * d + h))))))]) hX dX7_farOf_57 (by decide) rfl ?_
        refine g_iload hX dX7_farOf_59 rfl ?_
        refine g_iload hX dX7_farOf_61 rfl ?_
        have J63 : ∀ (v63_0 : Int32), (v63_0 = (if (if 0 ≤ ((w (6 + 40 * side + 5 * c + h)) - (w (6 + 40 * side + 5 * d + h))) then ((w (6 + 40 * side + 5 * c + h)) - (w (6 + 40 * side + 5 * d + h))) else (-((w (6 + 40 * side + 5 * c + h)) - (w (6 + 40 * side + 5 * d + h))))) ≤ (fMost w c d side h) then (fMost w c d side h) else (if 0 ≤ ((w (6 + 40 * side + 5 * c + h)) - (w (6 + 40 * side + 5 * d + h))) then ((w (6 + 40 * side + 5 * c + h)) - (w (6 + 40 * side + 5 * d + h))) else (-((w (6 + 40 * side + 5 * c + h)) - (w (6 + 40 * side + 5 * d + h))))))) → G X Q [(a0, .inr (8, fs)), (a1, .inl (D.1 100, 3318, .inl w))] 0 0 73 [some (.ref a0), some (.int (nI c)), some (.int (nI d)), some (.int (nI side)), some (.int ((fSum w c d side h) + (if 0 ≤ ((w (6 + 40 * side + 5 * c + h)) - (w (6 + 40 * side + 5 * d + h))) then ((w (6 + 40 * side + 5 * c + h)) - (w (6 + 40 * side + 5 * d + h))) else (-((w (6 + 40 * side + 5 * c + h)) - (w (6 + 40 * side + 5 * d + h))))))), some (.int (fMost w c d side h)), some (.int (fSq w c d side h)), some (.int (nI h)), some (.int (if 0 ≤ ((w (6 + 40 * side + 5 * c + h)) - (w (6 + 40 * side + 5 * d + h))) then ((w (6 + 40 * side + 5 * c + h)) - (w (6 + 40 * side + 5 * d + h))) else (-((w (6 + 40 * side + 5 * c + h)) - (w (6 + 40 * side + 5 * d + h))))))] [.int v63_0] := by
          intro v63_0 ev63_0
          subst ev63_0
          refine g_istore (L' := [some (.ref a0), some (.int (nI c)), some (.int (nI d)), some (.int (nI side)), some (.int ((fSum w c d side h) + (if 0 ≤ ((w (6 + 40 * side + 5 * c + h)) - (w (6 + 40 * side + 5 * d + h))) then ((w (6 + 40 * side + 5 * c + h)) - (w (6 + 40 * side + 5 * d + h))) else (-((w (6 + 40 * side + 5 * c + h)) - (w (6 + 40 * side + 5 * d + h))))))), some (.int (if (if 0 ≤ ((w (6 + 40 * side + 5 * c + h)) - (w (6 + 40 * side + 5 * d + h))) then ((w (6 + 40 * side + 5 * c + h)) - (w (6 + 40 * side + 5 * d + h))) else (-((w (6 + 40 * side + 5 * c + h)) - (w (6 + 40 * side + 5 * d + h))))) ≤ (fMost w c d side h) then (fMost w c d side h) else (if 0 ≤ ((w (6 + 40 * side + 5 * c + h)) - (w (6 + 40 * side + 5 * d + h))) then ((w (6 + 40 * side + 5 * c + h)) - (w (6 + 40 * side + 5 * d + h))) else (-((w (6 + 40 * side + 5 * c + h)) - (w (6 + 40 * side + 5 * d + h))))))), some (.int (fSq w c d side h)), some (.int (nI h)), some (.int (if 0 ≤ ((w (6 + 40 * side + 5 * c + h)) - (w (6 + 40 * side + 5 * d + h))) then ((w (6 + 40 * side + 5 * c + h)) - (w (6 + 40 * side + 5 * d + h))) else (-((w (6 + 40 * side + 5 * c + h)) - (w (6 + 40 * side + 5 * d + h))))))]) hX dX7_farOf_73 (by decide) rfl ?_
          refine g_iload hX dX7_farOf_75 rfl ?_
          refine g_iload hX dX7_farOf_77 rfl ?_
          refine g_iload hX dX7_farOf_79 rfl ?_
          refine g_imul hX dX7_farOf_81 ?_
          refine g_iadd hX dX7_farOf_82 ?_
          refine g_istore (L' := [some (.ref a0), some (.int (nI c)), some (.int (nI d)), some (.int (nI side)), some (.int ((fSum w c d side h) + (if 0 ≤ ((w (6 + 40 * side + 5 * c + h)) - (w (6 + 40 * side + 5 * d + h))) then ((w (6 + 40 * side + 5 * c + h)) - (w (6 + 40 * side + 5 * d + h))) else (-((w (6 + 40 * side + 5 * c + h)) - (w (6 + 40 * side + 5 * d + h))))))), some (.int (if (if 0 ≤ ((w (6 + 40 * side + 5 * c + h)) - (w (6 + 40 * side + 5 * d + h))) then ((w (6 + 40 * side + 5 * c + h)) - (w (6 + 40 * side + 5 * d + h))) else (-((w (6 + 40 * side + 5 * c + h)) - (w (6 + 40 * side + 5 * d + h))))) ≤ (fMost w c d side h) then (fMost w c d side h) else (if 0 ≤ ((w (6 + 40 * side + 5 * c + h)) - (w (6 + 40 * side + 5 * d + h))) then ((w (6 + 40 * side + 5 * c + h)) - (w (6 + 40 * side + 5 * d + h))) else (-((w (6 + 40 * side + 5 * c + h)) - (w (6 + 40 * side + 5 * d + h))))))), some (.int ((fSq w c d side h) + ((if 0 ≤ ((w (6 + 40 * side + 5 * c + h)) - (w (6 + 40 * side + 5 * d + h))) then ((w (6 + 40 * side + 5 * c + h)) - (w (6 + 40 * side + 5 * d + h))) else (-((w (6 + 40 * side + 5 * c + h)) - (w (6 + 40 * side + 5 * d + h))))) * (if 0 ≤ ((w (6 + 40 * side + 5 * c + h)) - (w (6 + 40 * side + 5 * d + h))) then ((w (6 + 40 * side + 5 * c + h)) - (w (6 + 40 * side + 5 * d + h))) else (-((w (6 + 40 * side + 5 * c + h)) - (w (6 + 40 * side + 5 * d + h)))))))), some (.int (nI h)), some (.int (if 0 ≤ ((w (6 + 40 * side + 5 * c + h)) - (w (6 + 40 * side + 5 * d + h))) then ((w (6 + 40 * side + 5 * c + h)) - (w (6 + 40 * side + 5 * d + h))) else (-((w (6 + 40 * side + 5 * c + h)) - (w (6 + 40 * side + 5 * d + h))))))]) hX dX7_farOf_83 (by decide) rfl ?_
          refine g_iincN (L' := [some (.ref a0), some (.int (nI c)), some (.int (nI d)), some (.int (nI side)), some (.int ((fSum w c d side h) + (if 0 ≤ ((w (6 + 40 * side + 5 * c + h)) - (w (6 + 40 * side + 5 * d + h))) then ((w (6 + 40 * side + 5 * c + h)) - (w (6 + 40 * side + 5 * d + h))) else (-((w (6 + 40 * side + 5 * c + h)) - (w (6 + 40 * side + 5 * d + h))))))), some (.int (if (if 0 ≤ ((w (6 + 40 * side + 5 * c + h)) - (w (6 + 40 * side + 5 * d + h))) then ((w (6 + 40 * side + 5 * c + h)) - (w (6 + 40 * side + 5 * d + h))) else (-((w (6 + 40 * side + 5 * c + h)) - (w (6 + 40 * side + 5 * d + h))))) ≤ (fMost w c d side h) then (fMost w c d side h) else (if 0 ≤ ((w (6 + 40 * side + 5 * c + h)) - (w (6 + 40 * side + 5 * d + h))) then ((w (6 + 40 * side + 5 * c + h)) - (w (6 + 40 * side + 5 * d + h))) else (-((w (6 + 40 * side + 5 * c + h)) - (w (6 + 40 * side + 5 * d + h))))))), some (.int ((fSq w c d side h) + ((if 0 ≤ ((w (6 + 40 * side + 5 * c + h)) - (w (6 + 40 * side + 5 * d + h))) then ((w (6 + 40 * side + 5 * c + h)) - (w (6 + 40 * side + 5 * d + h))) else (-((w (6 + 40 * side + 5 * c + h)) - (w (6 + 40 * side + 5 * d + h))))) * (if 0 ≤ ((w (6 + 40 * side + 5 * c + h)) - (w (6 + 40 * side + 5 * d + h))) then ((w (6 + 40 * side + 5 * c + h)) - (w (6 + 40 * side + 5 * d + h))) else (-((w (6 + 40 * side + 5 * c + h)) - (w (6 + 40 * side + 5 * d + h)))))))), some (.int (nI (h + 1))), some (.int (if 0 ≤ ((w (6 + 40 * side + 5 * c + h)) - (w (6 + 40 * side + 5 * d + h))) then ((w (6 + 40 * side + 5 * c + h)) - (w (6 + 40 * side + 5 * d + h))) else (-((w (6 + 40 * side + 5 * c + h)) - (w (6 + 40 * side + 5 * d + h))))))]) hX dX7_farOf_85 rfl (by decide) rfl ?_
          refine g_goto (tgt := 12) hX dX7_farOf_88 (by decide) ?_
          exact g_fin (ih12 (by omega) ) (rfl) rfl ⟨rfl, rfl, rfl, rfl, rfl, rfl, rfl, rfl, trivial⟩
        refine g_icmp_le (tgt := 71) hX dX7_farOf_63 (by decide) (fun h63 => ?_) (fun h63 => ?_)
        · skip
          refine g_iload hX dX7_farOf_71 rfl ?_
          exact g_to (J63 (fMost w c d side h) (if_pos h63).symm) ⟨rfl, rfl, rfl, rfl, rfl, rfl, rfl, rfl, rfl, trivial⟩
        · skip
          refine g_iload hX dX7_farOf_66 rfl ?_
          refine g_goto (tgt := 73) hX dX7_farOf_68 (by decide) ?_
          exact g_to (J63 (if 0 ≤ ((w (6 + 40 * side + 5 * c + h)) - (w (6 + 40 * side + 5 * d + h))) then ((w (6 + 40 * side + 5 * c + h)) - (w (6 + 40 * side + 5 * d + h))) else (-((w (6 + 40 * side + 5 * c + h)) - (w (6 + 40 * side + 5 * d + h))))) (if_neg h63).symm) ⟨rfl, rfl, rfl, rfl, rfl, rfl, rfl, rfl, rfl, trivial⟩
      refine g_if_ge (tgt := 48) hX dX7_farOf_39 (by decide) (fun h39 => ?_) (fun h39 => ?_)
      · skip
        refine g_iload hX dX7_farOf_48 rfl ?_
        exact g_to (J39 ((w (6 + 40 * side + 5 * c + h)) - (w (6 + 40 * side + 5 * d + h))) (if_pos h39).symm) ⟨rfl, rfl, rfl, rfl, rfl, rfl, rfl, rfl, rfl, trivial⟩
      · skip
        refine g_iload hX dX7_farOf_42 rfl ?_
        refine g_ineg hX dX7_farOf_44 ?_
        refine g_goto (tgt := 50) hX dX7_farOf_45 (by decide) ?_
        exact g_to (J39 (-((w (6 + 40 * side + 5 * c + h)) - (w (6 + 40 * side + 5 * d + h)))) (if_neg h39).symm) ⟨rfl, rfl, rfl, rfl, rfl, rfl, rfl, rfl, rfl, trivial⟩
  exact g_fin (loop12 0 (by omega) ) (rfl) rfl ⟨rfl, rfl, rfl, rfl, rfl, rfl, rfl, rfl, trivial⟩
set_option maxRecDepth 100000 in
set_option maxHeartbeats 4000000 in
theorem ct_X7_white {l : Launch} {D : va_G} {a0 a1 : Nat} {fs : List Value} {w : Nat → Int32} {c d : Nat} {g : Int32} (hf : fs[0]? = some (.ref a1)) (hc : c < 8) (hd : d < 8) : Cf l D yX7_white cX7_white 7 (some .int) 1 23 [.ref a0, .int (nI c), .int (nI d), .int g] [(a0, .inr (8, fs)), (a1, .inl (D.1 100, 3318, .inl w))] (some (.int (white w c d g))) [(a0, .inr (8, fs)), (a1, .inl (D.1 100, 3318, .inl w))] := by
  refine Ct.ofG (by decide) (Nat.le_of_ble_eq_true rfl) ?_
  intro X hX
  have hX : CX X l D RX7 "white" cX7_white 7 (some .int) 1 23 0 0 := hX
  show G X (QF X (some (.int (white w c d g))) [(a0, .inr (8, fs)), (a1, .inl (D.1 100, 3318, .inl w))]) [(a0, .inr (8, fs)), (a1, .inl (D.1 100, 3318, .inl w))] 0 0 0 [some (.ref a0), some (.int (nI c)), some (.int (nI d)), some (.int g), none, none, none] []
  generalize hQ : QF X (some (.int (white w c d g))) [(a0, .inr (8, fs)), (a1, .inl (D.1 100, 3318, .inl w))] = Q
  refine g_iconst hX dX7_white_0 kn_i_0 ?_
  refine g_istore (L' := [some (.ref a0), some (.int (nI c)), some (.int (nI d)), some (.int g), some (.int (nI 0)), none, none]) hX dX7_white_1 (by decide) rfl ?_
  refine g_iconst hX dX7_white_3 kn_i_0 ?_
  refine g_istore (L' := [some (.ref a0), some (.int (nI c)), some (.int (nI d)), some (.int g), some (.int (nI 0)), some (.int (nI 0)), none]) hX dX7_white_4 (by decide) rfl ?_
  have loop6 : ∀ h : Nat, h ≤ 5 → G X Q [(a0, .inr (8, fs)), (a1, .inl (D.1 100, 3318, .inl w))] 0 0 6 [some (.ref a0), some (.int (nI c)), some (.int (nI d)), some (.int g), some (.int (whTo w c d g h)), some (.int (nI h)), none] [] := by
    refine loopN 5 (fun h hh6 ih6 => ?_)
    refine g_iload hX dX7_white_6 rfl ?_
    refine g_iconst hX dX7_white_8 kn_i_5 ?_
    refine g_icmpN_ge (tgt := 73) hX dX7_white_9 (by decide) (by omega) (by omega) (fun h9 => ?_) (fun h9 => ?_)
    · skip
      obtain rfl : h = 5 := by omega
      refine g_iload hX dX7_white_73 rfl ?_
      subst hQ
      exact g_iret hX dX7_white_75 (rfl) (rfl) rfl rfl
    · skip
      refine g_aload_n hX dX7_white_12 rfl ?_
      refine g_iload_n hX dX7_white_13 rfl ?_
      refine g_iconst hX dX7_white_14 kn_i_1 ?_
      refine g_iload hX dX7_white_15 rfl ?_
      refine g_callRi hX dX7_white_17 cw_X7_61 (ct_X7_edgeOf  (by first | with_reducible assumption | rfl) (by omega) (by omega) (by omega)) 0 8 [0, 1] rfl rfl rfl rfl (by decide) rfl ⟨by decide, by decide⟩ (Nat.le_of_ble_eq_true rfl) (Nat.le_refl _) (Nat.le_refl _) ?_
      refine g_aload_n hX dX7_white_20 rfl ?_
      refine g_iload_n hX dX7_white_21 rfl ?_
      refine g_iconst hX dX7_white_22 kn_i_0 ?_
      refine g_iload hX dX7_white_23 rfl ?_
      refine g_callRi hX dX7_white_25 cw_X7_61 (ct_X7_edgeOf  (by first | with_reducible assumption | rfl) (by omega) (by omega) (by omega)) 0 8 [0, 1] rfl rfl rfl rfl (by decide) rfl ⟨by decide, by decide⟩ (Nat.le_of_ble_eq_true rfl) (Nat.le_refl _) (Nat.le_refl _) ?_
      refine g_iadd hX dX7_white_28 ?_
      refine g_iload_n hX dX7_white_29 rfl ?_
      refine g_iadd hX dX7_white_30 ?_
      refine g_istore (L' := [some (.ref a0), some (.int (nI c)), some (.int (nI d)), some (.int g), some (.int (whTo w c d g h)), some (.int (nI h)), some (.int (((w (6 + 40 * 1 + 5 * c + h)) + (w (6 + 40 * 0 + 5 * d + h))) + g))]) hX dX7_white_31 (by decide) rfl ?_
      refine g_iload hX dX7_white_33 rfl ?_
      refine g_iload hX dX7_white_35 rfl ?_
      have J37 : ∀ (v37_0 : Int32), (v37_0 = (if 0 ≤ (((w (6 + 40 * 1 + 5 * c + h)) + (w (6 + 40 * 0 + 5 * d + h))) + g) then (if (((w (6 + 40 * 1 + 5 * c + h)) + (w (6 + 40 * 0 + 5 * d + h))) + g) ≤ (w (1 + 2)) then (((w (6 + 40 * 1 + 5 * c + h)) + (w (6 + 40 * 0 + 5 * d + h))) + g) else (w (1 + 2))) else (nI 0))) → G X Q [(a0, .inr (8, fs)), (a1, .inl (D.1 100, 3318, .inl w))] 0 0 64 [some (.ref a0), some (.int (nI c)), some (.int (nI d)), some (.int g), some (.int (whTo w c d g h)), some (.int (nI h)), some (.int (((w (6 + 40 * 1 + 5 * c + h)) + (w (6 + 40 * 0 + 5 * d + h))) + g))] [.int v37_0, .int (whTo w c d g h)] := by
        intro v37_0 ev37_0
        subst ev37_0
        refine g_iadd hX dX7_white_64 ?_
        refine g_istore (L' := [some (.ref a0), some (.int (nI c)), some (.int (nI d)), some (.int g), some (.int ((whTo w c d g h) + (if 0 ≤ (((w (6 + 40 * 1 + 5 * c + h)) + (w (6 + 40 * 0 + 5 * d + h))) + g) then (if (((w (6 + 40 * 1 + 5 * c + h)) + (w (6 + 40 * 0 + 5 * d + h))) + g) ≤ (w (1 + 2)) then (((w (6 + 40 * 1 + 5 * c + h)) + (w (6 + 40 * 0 + 5 * d + h))) + g) else (w (1 + 2))) else (nI 0)))), some (.int (nI h)), some (.int (((w (6 + 40 * 1 + 5 * c + h)) + (w (6 + 40 * 0 + 5 * d + h))) + g))]) hX dX7_white_65 (by decide) rfl ?_
        refine g_iincN (L' := [some (.ref a0), some (.int (nI c)), some (.int (nI d)), some (.int g), some (.int ((whTo w c d g h) + (if 0 ≤ (((w (6 + 40 * 1 + 5 * c + h)) + (w (6 + 40 * 0 + 5 * d + h))) + g) then (if (((w (6 + 40 * 1 + 5 * c + h)) + (w (6 + 40 * 0 + 5 * d + h))) + g) ≤ (w (1 + 2)) then (((w (6 + 40 * 1 + 5 * c + h)) + (w (6 + 40 * 0 + 5 * d + h))) + g) else (w (1 + 2))) else (nI 0)))), some (.int (nI (h + 1))), some (.int (((w (6 + 40 * 1 + 5 * c + h)) + (w (6 + 40 * 0 + 5 * d + h))) + g))]) hX dX7_white_67 rfl (by decide) rfl ?_
        refine g_goto (tgt := 6) hX dX7_white_70 (by decide) ?_
        exact g_fin (ih6 (by omega) ) (rfl) rfl ⟨rfl, rfl, rfl, rfl, rfl, rfl, trivial⟩
      refine g_if_ge (tgt := 44) hX dX7_white_37 (by decide) (fun h37 => ?_) (fun h37 => ?_)
      · skip
        refine g_iload hX dX7_white_44 rfl ?_
        refine g_aload_n hX dX7_white_46 rfl ?_
        refine g_iconst hX dX7_white_47 kn_i_2 ?_
        refine g_callRi hX dX7_white_48 cw_X7_65 (ct_X7_termOf  (by first | with_reducible assumption | rfl) (by omega)) 0 8 [0, 1] rfl rfl rfl rfl (by decide) rfl ⟨by decide, by decide⟩ (Nat.le_of_ble_eq_true rfl) (Nat.le_refl _) (Nat.le_refl _) ?_
        have J51 : ∀ (v51_0 : Int32), (v51_0 = (if (((w (6 + 40 * 1 + 5 * c + h)) + (w (6 + 40 * 0 + 5 * d + h))) + g) ≤ (w (1 + 2)) then (((w (6 + 40 * 1 + 5 * c + h)) + (w (6 + 40 * 0 + 5 * d + h))) + g) else (w (1 + 2)))) → G X Q [(a0, .inr (8, fs)), (a1, .inl (D.1 100, 3318, .inl w))] 0 0 64 [some (.ref a0), some (.int (nI c)), some (.int (nI d)), some (.int g), some (.int (whTo w c d g h)), some (.int (nI h)), some (.int (((w (6 + 40 * 1 + 5 * c + h)) + (w (6 + 40 * 0 + 5 * d + h))) + g))] [.int v51_0, .int (whTo w c d g h)] := by
          intro v51_0 ev51_0
          subst ev51_0
          exact g_to (J37 (if (((w (6 + 40 * 1 + 5 * c + h)) + (w (6 + 40 * 0 + 5 * d + h))) + g) ≤ (w (1 + 2)) then (((w (6 + 40 * 1 + 5 * c + h)) + (w (6 + 40 * 0 + 5 * d + h))) + g) else (w (1 + 2))) (if_pos h37).symm) ⟨rfl, rfl, rfl, rfl, rfl, rfl, rfl, trivial⟩
        refine g_icmp_le (tgt := 62) hX dX7_white_51 (by decide) (fun h51 => ?_) (fun h51 => ?_)
        · skip
          refine g_iload hX dX7_white_62 rfl ?_
          exact g_to (J51 (((w (6 + 40 * 1 + 5 * c + h)) + (w (6 + 40 * 0 + 5 * d + h))) + g) (if_pos h51).symm) ⟨rfl, rfl, rfl, rfl, rfl, rfl, rfl, trivial⟩
        · skip
          refine g_aload_n hX dX7_white_54 rfl ?_
          refine g_iconst hX dX7_white_55 kn_i_2 ?_
          refine g_callRi hX dX7_white_56 cw_X7_65 (ct_X7_termOf  (by first | with_reducible assumption | rfl) (by omega)) 0 8 [0, 1] rfl rfl rfl rfl (by decide) rfl ⟨by decide, by decide⟩ (Nat.le_of_ble_eq_true rfl) (Nat.le_refl _) (Nat.le_refl _) ?_
          refine g_goto (tgt := 64) hX dX7_white_59 (by decide) ?_
          exact g_to (J51 (w (1 + 2)) (if_neg h51).symm) ⟨rfl, rfl, rfl, rfl, rfl, rfl, rfl, trivial⟩
      · skip
        refine g_iconst hX dX7_white_40 kn_i_0 ?_
        refine g_goto (tgt := 64) hX dX7_white_41 (by decide) ?_
        exact g_to (J37 (nI 0) (if_neg h37).symm) ⟨rfl, rfl, rfl, rfl, rfl, rfl, rfl, trivial⟩
  exact g_fin (loop6 0 (by omega) ) (rfl) rfl ⟨rfl, rfl, rfl, rfl, rfl, rfl, trivial⟩
