set_option maxRecDepth 100000 in
set_option maxHeartbeats 4000000 in
theorem ct_X7_wrong {l : Launch} {D : va_G} {a0 a1 a2 a3 a4 a5 a6 a7 a8 a9 a10 uk sz wr pa fl ln : Nat} {kp sd fa : Int32} {w q bo bt bs : Nat → Int32} (hq : ∀ k, k < 16 → q k = cq w k) (hwr : wr ≤ 20) : Cf l D yX7_wrong cX7_wrong 2 (some .int) 9 215 [.ref a0] [(a0, .inr (8, [.ref a1, .int (nI uk), .int kp, .int sd, .ref a2, .ref a3, .int (nI sz), .int fa, .ref a4, .ref a5, .ref a6, .int (nI wr), .ref a7, .ref a8, .int (nI pa), .int (nI fl), .ref a9, .int (nI ln), .ref a10])), (a1, .inl (D.1 100, 3318, .inl w)), (a7, .inl (D.1 100, 16, .inl q)), (a4, .inl (D.1 100, 20, .inl bo)), (a5, .inl (D.1 100, 20, .inl bt)), (a6, .inl (D.1 100, 20, .inl bs))] (some (.int (oI (wrongO w bo bt bs wr)))) [(a0, .inr (8, [.ref a1, .int (nI uk), .int kp, .int sd, .ref a2, .ref a3, .int (nI sz), .int fa, .ref a4, .ref a5, .ref a6, .int (nI wr), .ref a7, .ref a8, .int (nI pa), .int (nI fl), .ref a9, .int (nI ln), .ref a10])), (a1, .inl (D.1 100, 3318, .inl w)), (a7, .inl (D.1 100, 16, .inl q)), (a4, .inl (D.1 100, 20, .inl bo)), (a5, .inl (D.1 100, 20, .inl bt)), (a6, .inl (D.1 100, 20, .inl bs))] := by
  refine Ct.ofG (by decide) (Nat.le_of_ble_eq_true rfl) ?_
  intro X hX
  have hX : CX X l D RX7 "wrong" cX7_wrong 2 (some .int) 9 215 0 0 := hX
  show G X (QF X (some (.int (oI (wrongO w bo bt bs wr)))) [(a0, .inr (8, [.ref a1, .int (nI uk), .int kp, .int sd, .ref a2, .ref a3, .int (nI sz), .int fa, .ref a4, .ref a5, .ref a6, .int (nI wr), .ref a7, .ref a8, .int (nI pa), .int (nI fl), .ref a9, .int (nI ln), .ref a10])), (a1, .inl (D.1 100, 3318, .inl w)), (a7, .inl (D.1 100, 16, .inl q)), (a4, .inl (D.1 100, 20, .inl bo)), (a5, .inl (D.1 100, 20, .inl bt)), (a6, .inl (D.1 100, 20, .inl bs))]) [(a0, .inr (8, [.ref a1, .int (nI uk), .int kp, .int sd, .ref a2, .ref a3, .int (nI sz), .int fa, .ref a4, .ref a5, .ref a6, .int (nI wr), .ref a7, .ref a8, .int (nI pa), .int (nI fl), .ref a9, .int (nI ln), .ref a10])), (a1, .inl (D.1 100, 3318, .inl w)), (a7, .inl (D.1 100, 16, .inl q)), (a4, .inl (D.1 100, 20, .inl bo)), (a5, .inl (D.1 100, 20, .inl bt)), (a6, .inl (D.1 100, 20, .inl bs))] 0 0 0 [some (.ref a0), none] []
  generalize hQ : QF X (some (.int (oI (wrongO w bo bt bs wr)))) [(a0, .inr (8, [.ref a1, .int (nI uk), .int kp, .int sd, .ref a2, .ref a3, .int (nI sz), .int fa, .ref a4, .ref a5, .ref a6, .int (nI wr), .ref a7, .ref a8, .int (nI pa), .int (nI fl), .ref a9, .int (nI ln), .ref a10])), (a1, .inl (D.1 100, 3318, .inl w)), (a7, .inl (D.1 100, 16, .inl q)), (a4, .inl (D.1 100, 20, .inl bo)), (a5, .inl (D.1 100, 20, .inl bt)), (a6, .inl (D.1 100, 20, .inl bs))] = Q
  refine g_iconst hX dX7_wrong_0 kn_i_0 ?_
  refine g_istore_n (L' := [some (.ref a0), some (.int (nI 0))]) hX dX7_wrong_1 (by decide) rfl ?_
  have loop2 : ∀ k : Nat, k ≤ wr → (fnd (fun k => wrB w (bo k) (bt k) (bs k)) wr 0 = fnd (fun k => wrB w (bo k) (bt k) (bs k)) (wr - k) k) → G X Q [(a0, .inr (8, [.ref a1, .int (nI uk), .int kp, .int sd, .ref a2, .ref a3, .int (nI sz), .int fa, .ref a4, .ref a5, .ref a6, .int (nI wr), .ref a7, .ref a8, .int (nI pa), .int (nI fl), .ref a9, .int (nI ln), .ref a10])), (a1, .inl (D.1 100, 3318, .inl w)), (a7, .inl (D.1 100, 16, .inl q)), (a4, .inl (D.1 100, 20, .inl bo)), (a5, .inl (D.1 100, 20, .inl bt)), (a6, .inl (D.1 100, 20, .inl bs))] 0 0 2 [some (.ref a0), some (.int (nI k))] [] := by
    refine loopN wr (fun k hh2 ih2 => ?_)
    intro hr
    refine g_iload_n hX dX7_wrong_2 rfl ?_
    refine g_aload_n hX dX7_wrong_3 rfl ?_
    refine g_getf hX dX7_wrong_4 fk_X7_240 0 rfl rfl ?_
    refine g_icmpN_ge (tgt := 72) hX dX7_wrong_7 (by decide) (by omega) (by omega) (fun h7 => ?_) (fun h7 => ?_)
    · skip
      refine g_iconst hX dX7_wrong_72 kn_i_m1 ?_
      subst hQ
      exact g_iret hX dX7_wrong_73 (iR (by unfold wrongO; rw [hr, fnd_e (by omega)]; rfl)) (rfl) rfl rfl
    · skip
      refine g_aload_n hX dX7_wrong_10 rfl ?_
      refine g_aload_n hX dX7_wrong_11 rfl ?_
      refine g_getf hX dX7_wrong_12 fk_X7_23 0 rfl rfl ?_
      refine g_iload_n hX dX7_wrong_15 rfl ?_
      refine g_iald hX dX7_wrong_16 3 rfl (by decide) (by omega) ?_
      refine g_callRi hX dX7_wrong_17 cw_X7_69 (ct_X7_isKnown  (by first | with_reducible assumption | rfl)) 0 8 [0, 1] rfl rfl rfl rfl (by decide) rfl ⟨by decide, by decide⟩ (Nat.le_of_ble_eq_true rfl) (Nat.le_refl _) (Nat.le_refl _) ?_
      refine g_ifb_eq (tgt := 64) hX dX7_wrong_20 (by decide) (fun h20 => ?_) (fun h20 => ?_)
      · skip
        refine g_iload_n hX dX7_wrong_64 rfl ?_
        subst hQ
        exact g_iret hX dX7_wrong_65 (iR (by unfold wrongO; rw [hr, fnd_y (by omega) (wrB_1 h20)]; rfl)) (rfl) rfl rfl
      · skip
        refine g_aload_n hX dX7_wrong_23 rfl ?_
        refine g_aload_n hX dX7_wrong_24 rfl ?_
        refine g_getf hX dX7_wrong_25 fk_X7_26 0 rfl rfl ?_
        refine g_iload_n hX dX7_wrong_28 rfl ?_
        refine g_iald hX dX7_wrong_29 4 rfl (by decide) (by omega) ?_
        refine g_callRi hX dX7_wrong_30 cw_X7_69 (ct_X7_isKnown  (by first | with_reducible assumption | rfl)) 0 8 [0, 1] rfl rfl rfl rfl (by decide) rfl ⟨by decide, by decide⟩ (Nat.le_of_ble_eq_true rfl) (Nat.le_refl _) (Nat.le_refl _) ?_
        refine g_ifb_eq (tgt := 64) hX dX7_wrong_33 (by decide) (fun h33 => ?_) (fun h33 => ?_)
        · skip
          refine g_iload_n hX dX7_wrong_64 rfl ?_
          subst hQ
          exact g_iret hX dX7_wrong_65 (iR (by unfold wrongO; rw [hr, fnd_y (by omega) (wrB_2 h33)]; rfl)) (rfl) rfl rfl
        · skip
          obtain ⟨c1, hc1, ec1, kc1⟩ := isKn_in h20
          obtain ⟨d1, hd1, ed1, kd1⟩ := isKn_in h33
          refine g_aload_n hX dX7_wrong_36 rfl ?_
          refine g_aload_n hX dX7_wrong_37 rfl ?_
          refine g_getf hX dX7_wrong_38 fk_X7_23 0 rfl rfl ?_
          refine g_iload_n hX dX7_wrong_41 rfl ?_
          refine g_iald hX dX7_wrong_42 3 rfl (by decide) (by omega) ?_
          refine g_top (v' := nI c1) (ec1) ?_
          refine g_aload_n hX dX7_wrong_43 rfl ?_
          refine g_getf hX dX7_wrong_44 fk_X7_26 0 rfl rfl ?_
          refine g_iload_n hX dX7_wrong_47 rfl ?_
          refine g_iald hX dX7_wrong_48 4 rfl (by decide) (by omega) ?_
          refine g_top (v' := nI d1) (ed1) ?_
          refine g_callRi hX dX7_wrong_49 cw_X7_129 (ct_X7_gapOf  (by first | with_reducible assumption | rfl) (by first | with_reducible assumption | rfl) (by omega) (by omega) (below_ne_self hc1 hd1 kc1 kd1)) 0 8 [0, 1, 2] rfl rfl rfl rfl (by decide) rfl ⟨by decide, by decide⟩ (Nat.le_of_ble_eq_true rfl) (Nat.le_refl _) (Nat.le_refl _) ?_
          refine g_bipush hX dX7_wrong_52 kn_b_100 ?_
          refine g_isub hX dX7_wrong_54 ?_
          refine g_aload_n hX dX7_wrong_55 rfl ?_
          refine g_getf hX dX7_wrong_56 fk_X7_29 0 rfl rfl ?_
          refine g_iload_n hX dX7_wrong_59 rfl ?_
          refine g_iald hX dX7_wrong_60 5 rfl (by decide) (by omega) ?_
          refine g_icmp_eq (tgt := 66) hX dX7_wrong_61 (by decide) (fun h61 => ?_) (fun h61 => ?_)
          · skip
            refine g_iincN (L' := [some (.ref a0), some (.int (nI (k + 1)))]) hX dX7_wrong_66 rfl (by decide) rfl ?_
            refine g_goto (tgt := 2) hX dX7_wrong_69 (by decide) ?_
            exact g_fin (ih2 (by omega) (hr.trans (fnd_n (by omega) ((wrB_e hq hc1 hd1 kc1 kd1 ec1 ed1).trans (by rw [decide_eq_true h61]; rfl))))) (rfl) rfl ⟨rfl, rfl, trivial⟩
          · skip
            refine g_iload_n hX dX7_wrong_64 rfl ?_
            subst hQ
            exact g_iret hX dX7_wrong_65 (iR (by unfold wrongO; rw [hr, fnd_y (by omega) ((wrB_e hq hc1 hd1 kc1 kd1 ec1 ed1).trans (by rw [decide_eq_false h61]; rfl))]; rfl)) (rfl) rfl rfl
  exact g_fin (loop2 0 (by omega) rfl) (rfl) rfl ⟨rfl, rfl, trivial⟩
set_option maxRecDepth 100000 in
set_option maxHeartbeats 4000000 in
theorem ct_X7_toldMore {l : Launch} {D : va_G} {a0 a1 a2 a3 a4 a5 a6 a7 a8 a9 a10 uk sz wr pa fl ln : Nat} {kp sd fa : Int32} {w q bo bt bs : Nat → Int32} {what : Int32} (hq : ∀ k, k < 16 → q k = cq w k) (hwr : wr ≤ 20) : Cf l D yX7_toldMore cX7_toldMore 2 (some .int) 10 236 [.ref a0, .int what] [(a0, .inr (8, [.ref a1, .int (nI uk), .int kp, .int sd, .ref a2, .ref a3, .int (nI sz), .int fa, .ref a4, .ref a5, .ref a6, .int (nI wr), .ref a7, .ref a8, .int (nI pa), .int (nI fl), .ref a9, .int (nI ln), .ref a10])), (a1, .inl (D.1 100, 3318, .inl w)), (a7, .inl (D.1 100, 16, .inl q)), (a4, .inl (D.1 100, 20, .inl bo)), (a5, .inl (D.1 100, 20, .inl bt)), (a6, .inl (D.1 100, 20, .inl bs))] (some (.int (toldX w bo bt bs uk sz wr sd what))) [(a0, .inr (8, [.ref a1, .int (nI uk), .int kp, .int sd, .ref a2, .ref a3, .int (nI sz), .int fa, .ref a4, .ref a5, .ref a6, .int (nI wr), .ref a7, .ref a8, .int (nI pa), .int (nI fl), .ref a9, .int (nI ln), .ref a10])), (a1, .inl (D.1 100, 3318, .inl w)), (a7, .inl (D.1 100, 16, .inl q)), (a4, .inl (D.1 100, 20, .inl bo)), (a5, .inl (D.1 100, 20, .inl bt)), (a6, .inl (D.1 100, 20, .inl bs))] := by
  refine Ct.ofG (by decide) (Nat.le_of_ble_eq_true rfl) ?_
  intro X hX
  have hX : CX X l D RX7 "toldMore" cX7_toldMore 2 (some .int) 10 236 0 0 := hX
  show G X (QF X (some (.int (toldX w bo bt bs uk sz wr sd what))) [(a0, .inr (8, [.ref a1, .int (nI uk), .int kp, .int sd, .ref a2, .ref a3, .int (nI sz), .int fa, .ref a4, .ref a5, .ref a6, .int (nI wr), .ref a7, .ref a8, .int (nI pa), .int (nI fl), .ref a9, .int (nI ln), .ref a10])), (a1, .inl (D.1 100, 3318, .inl w)), (a7, .inl (D.1 100, 16, .inl q)), (a4, .inl (D.1 100, 20, .inl bo)), (a5, .inl (D.1 100, 20, .inl bt)), (a6, .inl (D.1 100, 20, .inl bs))]) [(a0, .inr (8, [.ref a1, .int (nI uk), .int kp, .int sd, .ref a2, .ref a3, .int (nI sz), .int fa, .ref a4, .ref a5, .ref a6, .int (nI wr), .ref a7, .ref a8, .int (nI pa), .int (nI fl), .ref a9, .int (nI ln), .ref a10])), (a1, .inl (D.1 100, 3318, .inl w)), (a7, .inl (D.1 100, 16, .inl q)), (a4, .inl (D.1 100, 20, .inl bo)), (a5, .inl (D.1 100, 20, .inl bt)), (a6, .inl (D.1 100, 20, .inl bs))] 0 0 0 [some (.ref a0), some (.int what)] []
  generalize hQ : QF X (some (.int (toldX w bo bt bs uk sz wr sd what))) [(a0, .inr (8, [.ref a1, .int (nI uk), .int kp, .int sd, .ref a2, .ref a3, .int (nI sz), .int fa, .ref a4, .ref a5, .ref a6, .int (nI wr), .ref a7, .ref a8, .int (nI pa), .int (nI fl), .ref a9, .int (nI ln), .ref a10])), (a1, .inl (D.1 100, 3318, .inl w)), (a7, .inl (D.1 100, 16, .inl q)), (a4, .inl (D.1 100, 20, .inl bo)), (a5, .inl (D.1 100, 20, .inl bt)), (a6, .inl (D.1 100, 20, .inl bs))] = Q
  refine g_iload_n hX dX7_toldMore_0 rfl ?_
  by_cases hs1_0 : what = nI 7
  · subst hs1_0
    refine g_tswj (tgt := 56) hX dX7_toldMore_1 0 rfl (by decide) rfl (by decide) ?_
    refine g_aload_n hX dX7_toldMore_56 rfl ?_
    refine g_iload_n hX dX7_toldMore_57 rfl ?_
    refine g_bipush hX dX7_toldMore_58 kn_b_7 ?_
    refine g_isubN hX dX7_toldMore_60 (by omega) ?_
    refine g_callRi hX dX7_toldMore_61 cw_X7_65 (ct_X7_termOf  (by first | with_reducible assumption | rfl) (by omega)) 0 8 [0, 1] rfl rfl rfl rfl (by decide) rfl ⟨by decide, by decide⟩ (Nat.le_of_ble_eq_true rfl) (Nat.le_refl _) (Nat.le_refl _) ?_
    subst hQ
    exact g_iret hX dX7_toldMore_64 (iR (toldX_n (k := 7) (by decide) (by decide))) (rfl) rfl rfl
  by_cases hs1_1 : what = nI 8
  · subst hs1_1
    refine g_tswj (tgt := 56) hX dX7_toldMore_1 1 rfl (by decide) rfl (by decide) ?_
    refine g_aload_n hX dX7_toldMore_56 rfl ?_
    refine g_iload_n hX dX7_toldMore_57 rfl ?_
    refine g_bipush hX dX7_toldMore_58 kn_b_7 ?_
    refine g_isubN hX dX7_toldMore_60 (by omega) ?_
    refine g_callRi hX dX7_toldMore_61 cw_X7_65 (ct_X7_termOf  (by first | with_reducible assumption | rfl) (by omega)) 0 8 [0, 1] rfl rfl rfl rfl (by decide) rfl ⟨by decide, by decide⟩ (Nat.le_of_ble_eq_true rfl) (Nat.le_refl _) (Nat.le_refl _) ?_
    subst hQ
    exact g_iret hX dX7_toldMore_64 (iR (toldX_n (k := 8) (by decide) (by decide))) (rfl) rfl rfl
  by_cases hs1_2 : what = nI 9
  · subst hs1_2
    refine g_tswj (tgt := 56) hX dX7_toldMore_1 2 rfl (by decide) rfl (by decide) ?_
    refine g_aload_n hX dX7_toldMore_56 rfl ?_
    refine g_iload_n hX dX7_toldMore_57 rfl ?_
    refine g_bipush hX dX7_toldMore_58 kn_b_7 ?_
    refine g_isubN hX dX7_toldMore_60 (by omega) ?_
    refine g_callRi hX dX7_toldMore_61 cw_X7_65 (ct_X7_termOf  (by first | with_reducible assumption | rfl) (by omega)) 0 8 [0, 1] rfl rfl rfl rfl (by decide) rfl ⟨by decide, by decide⟩ (Nat.le_of_ble_eq_true rfl) (Nat.le_refl _) (Nat.le_refl _) ?_
    subst hQ
    exact g_iret hX dX7_toldMore_64 (iR (toldX_n (k := 9) (by decide) (by decide))) (rfl) rfl rfl
  by_cases hs1_3 : what = nI 10
  · subst hs1_3
    refine g_tswj (tgt := 56) hX dX7_toldMore_1 3 rfl (by decide) rfl (by decide) ?_
    refine g_aload_n hX dX7_toldMore_56 rfl ?_
    refine g_iload_n hX dX7_toldMore_57 rfl ?_
    refine g_bipush hX dX7_toldMore_58 kn_b_7 ?_
    refine g_isubN hX dX7_toldMore_60 (by omega) ?_
    refine g_callRi hX dX7_toldMore_61 cw_X7_65 (ct_X7_termOf  (by first | with_reducible assumption | rfl) (by omega)) 0 8 [0, 1] rfl rfl rfl rfl (by decide) rfl ⟨by decide, by decide⟩ (Nat.le_of_ble_eq_true rfl) (Nat.le_refl _) (Nat.le_refl _) ?_
    subst hQ
    exact g_iret hX dX7_toldMore_64 (iR (toldX_n (k := 10) (by decide) (by decide))) (rfl) rfl rfl
  by_cases hs1_4 : what = nI 11
  · subst hs1_4
    refine g_tswj (tgt := 56) hX dX7_toldMore_1 4 rfl (by decide) rfl (by decide) ?_
    refine g_aload_n hX dX7_toldMore_56 rfl ?_
    refine g_iload_n hX dX7_toldMore_57 rfl ?_
    refine g_bipush hX dX7_toldMore_58 kn_b_7 ?_
    refine g_isubN hX dX7_toldMore_60 (by omega) ?_
    refine g_callRi hX dX7_toldMore_61 cw_X7_65 (ct_X7_termOf  (by first | with_reducible assumption | rfl) (by omega)) 0 8 [0, 1] rfl rfl rfl rfl (by decide) rfl ⟨by decide, by decide⟩ (Nat.le_of_ble_eq_true rfl) (Nat.le_refl _) (Nat.le_refl _) ?_
    subst hQ
    exact g_iret hX dX7_toldMore_64 (iR (toldX_n (k := 11) (by decide) (by decide))) (rfl) rfl rfl
  by_cases hs1_5 : what = nI 12
  · subst hs1_5
    refine g_tswj (tgt := 65) hX dX7_toldMore_1 5 rfl (by decide) rfl (by decide) ?_
    refine g_aload_n hX dX7_toldMore_65 rfl ?_
    refine g_getf hX dX7_toldMore_66 fk_X7_135 0 rfl rfl ?_
    subst hQ
    exact g_iret hX dX7_toldMore_69 (iR (toldX_n (k := 12) (by decide) (by decide))) (rfl) rfl rfl
  by_cases hs1_6 : what = nI 13
  · subst hs1_6
    refine g_tswj (tgt := 70) hX dX7_toldMore_1 6 rfl (by decide) rfl (by decide) ?_
    refine g_aload_n hX dX7_toldMore_70 rfl ?_
    refine g_getf hX dX7_toldMore_71 fk_X7_240 0 rfl rfl ?_
    subst hQ
    exact g_iret hX dX7_toldMore_74 (iR (toldX_n (k := 13) (by decide) (by decide))) (rfl) rfl rfl
  by_cases hs1_7 : what = nI 14
  · subst hs1_7
    refine g_tswj (tgt := 75) hX dX7_toldMore_1 7 rfl (by decide) rfl (by decide) ?_
    refine g_aload_n hX dX7_toldMore_75 rfl ?_
    refine g_callRi hX dX7_toldMore_76 cw_X7_243 (ct_X7_wrong  (by first | with_reducible assumption | assumption) (by omega)) 0 8 [0, 1, 2, 3, 4, 5] rfl rfl rfl rfl (by decide) rfl ⟨by decide, by decide⟩ (Nat.le_of_ble_eq_true rfl) (Nat.le_refl _) (Nat.le_refl _) ?_
    subst hQ
    exact g_iret hX dX7_toldMore_79 (iR (toldX_n (k := 14) (by decide) (by decide))) (rfl) rfl rfl
  by_cases hs1_8 : what = nI 15
  · subst hs1_8
    refine g_tswj (tgt := 80) hX dX7_toldMore_1 8 rfl (by decide) rfl (by decide) ?_
    refine g_aload_n hX dX7_toldMore_80 rfl ?_
    refine g_getf hX dX7_toldMore_81 fk_X7_48 0 rfl rfl ?_
    subst hQ
    exact g_iret hX dX7_toldMore_84 (iR (toldX_n (k := 15) (by decide) (by decide))) (rfl) rfl rfl
  by_cases hs1_9 : what = nI 16
  · subst hs1_9
    refine g_tswj (tgt := 85) hX dX7_toldMore_1 9 rfl (by decide) rfl (by decide) ?_
    refine g_aload_n hX dX7_toldMore_85 rfl ?_
    refine g_getf hX dX7_toldMore_86 fk_X7_246 0 rfl rfl ?_
    subst hQ
    exact g_iret hX dX7_toldMore_89 (iR (toldX_n (k := 16) (by decide) (by decide))) (rfl) rfl rfl
  have hsw1 : what.toInt < 7 ∨ 16 < what.toInt := sw_out (lo := 7) (n := 10) (by decide) (fun j hj => match j, hj with | 0, _ => hs1_0 | 1, _ => hs1_1 | 2, _ => hs1_2 | 3, _ => hs1_3 | 4, _ => hs1_4 | 5, _ => hs1_5 | 6, _ => hs1_6 | 7, _ => hs1_7 | 8, _ => hs1_8 | 9, _ => hs1_9 | j + 10, hj => absurd hj (by omega))
  refine g_tswo (tgt := 90) hX dX7_toldMore_1 hsw1 (by decide) ?_
  refine g_ldc hX dX7_toldMore_90 kc_X7_210 ?_
  subst hQ
  exact g_iret hX dX7_toldMore_92 (iR (toldX_o hsw1)) (rfl) rfl rfl
set_option maxRecDepth 100000 in
set_option maxHeartbeats 4000000 in
theorem ct_X7_told {l : Launch} {D : va_G} {a0 a1 a2 a3 a4 a5 a6 a7 a8 a9 a10 uk sz wr pa fl ln : Nat} {kp sd fa : Int32} {w q cl bo bt bs : Nat → Int32} {what : Int32} (hw : okW w) (hwr : wr ≤ 20) : Ct (S := Int32 × (Nat → Int32) × (Nat → Int32)) l D yX7_told cX7_told 2 (some .int) 11 257 0 0 [.ref a0, .int what] [(a0, .inr (8, [.ref a1, .int (nI uk), .int kp, .int sd, .ref a2, .ref a3, .int (nI sz), .int fa, .ref a4, .ref a5, .ref a6, .int (nI wr), .ref a7, .ref a8, .int (nI pa), .int (nI fl), .ref a9, .int (nI ln), .ref a10])), (a1, .inl (D.1 100, 3318, .inl w)), (a7, .inl (D.1 100, 16, .inl q)), (a8, .inl (D.1 100, 2, .inl cl)), (a4, .inl (D.1 100, 20, .inl bo)), (a5, .inl (D.1 100, 20, .inl bt)), (a6, .inl (D.1 100, 20, .inl bs))] (fun (r : Option Value) (u : Int32 × (Nat → Int32) × (Nat → Int32)) => match u with | (V, Qn, Cn) => r = (some (.int V)) ∧ (V = toldV w bo bt bs uk sz wr sd what)) (fun (u : Int32 × (Nat → Int32) × (Nat → Int32)) => match u with | (V, Qn, Cn) => ([(a0, .inr (8, [.ref a1, .int (nI uk), .int kp, .int sd, .ref a2, .ref a3, .int (nI sz), .int fa, .ref a4, .ref a5, .ref a6, .int (nI wr), .ref a7, .ref a8, .int (nI pa), .int (nI fl), .ref a9, .int (nI ln), .ref a10])), (a1, .inl (D.1 100, 3318, .inl w)), (a7, .inl (D.1 100, 16, .inl Qn)), (a8, .inl (D.1 100, 2, .inl Cn)), (a4, .inl (D.1 100, 20, .inl bo)), (a5, .inl (D.1 100, 20, .inl bt)), (a6, .inl (D.1 100, 20, .inl bs))] : va_W)) := by
  refine Ct.ofG (by decide) (Nat.le_of_ble_eq_true rfl) ?_
  intro X hX
  have hX : CX X l D RX7 "told" cX7_told 2 (some .int) 11 257 0 0 := hX
  show G X (QM X 0 0 (fun (r : Option Value) (u : Int32 × (Nat → Int32) × (Nat → Int32)) => match u with | (V, Qn, Cn) => r = (some (.int V)) ∧ (V = toldV w bo bt bs uk sz wr sd what)) (fun (u : Int32 × (Nat → Int32) × (Nat → Int32)) => match u with | (V, Qn, Cn) => ([(a0, .inr (8, [.ref a1, .int (nI uk), .int kp, .int sd, .ref a2, .ref a3, .int (nI sz), .int fa, .ref a4, .ref a5, .ref a6, .int (nI wr), .ref a7, .ref a8, .int (nI pa), .int (nI fl), .ref a9, .int (nI ln), .ref a10])), (a1, .inl (D.1 100, 3318, .inl w)), (a7, .inl (D.1 100, 16, .inl Qn)), (a8, .inl (D.1 100, 2, .inl Cn)), (a4, .inl (D.1 100, 20, .inl bo)), (a5, .inl (D.1 100, 20, .inl bt)), (a6, .inl (D.1 100, 20, .inl bs))] : va_W))) [(a0, .inr (8, [.ref a1, .int (nI uk), .int kp, .int sd, .ref a2, .ref a3, .int (nI sz), .int fa, .ref a4, .ref a5, .ref a6, .int (nI wr), .ref a7, .ref a8, .int (nI pa), .int (nI fl), .ref a9, .int (nI ln), .ref a10])), (a1, .inl (D.1 100, 3318, .inl w)), (a7, .inl (D.1 100, 16, .inl q)), (a8, .inl (D.1 100, 2, .inl cl)), (a4, .inl (D.1 100, 20, .inl bo)), (a5, .inl (D.1 100, 20, .inl bt)), (a6, .inl (D.1 100, 20, .inl bs))] 0 0 0 [some (.ref a0), some (.int what)] []
  generalize hQ : QM X 0 0 (fun (r : Option Value) (u : Int32 × (Nat → Int32) × (Nat → Int32)) => match u with | (V, Qn, Cn) => r = (some (.int V)) ∧ (V = toldV w bo bt bs uk sz wr sd what)) (fun (u : Int32 × (Nat → Int32) × (Nat → Int32)) => match u with | (V, Qn, Cn) => ([(a0, .inr (8, [.ref a1, .int (nI uk), .int kp, .int sd, .ref a2, .ref a3, .int (nI sz), .int fa, .ref a4, .ref a5, .ref a6, .int (nI wr), .ref a7, .ref a8, .int (nI pa), .int (nI fl), .ref a9, .int (nI ln), .ref a10])), (a1, .inl (D.1 100, 3318, .inl w)), (a7, .inl (D.1 100, 16, .inl Qn)), (a8, .inl (D.1 100, 2, .inl Cn)), (a4, .inl (D.1 100, 20, .inl bo)), (a5, .inl (D.1 100, 20, .inl bt)), (a6, .inl (D.1 100, 20, .inl bs))] : va_W)) = Q
  refine g_aload_n hX dX7_told_0 rfl ?_
  refine g_callFv (ws' := [(a0, .inr (8, [.ref a1, .int (nI uk), .int kp, .int sd, .ref a2, .ref a3, .int (nI sz), .int fa, .ref a4, .ref a5, .ref a6, .int (nI wr), .ref a7, .ref a8, .int (nI pa), .int (nI fl), .ref a9, .int (nI ln), .ref a10])), (a1, .inl (D.1 100, 3318, .inl w)), (a7, .inl (D.1 100, 16, .inl (layQ w q))), (a8, .inl (D.1 100, 2, .inl (layC w cl))), (a4, .inl (D.1 100, 20, .inl bo)), (a5, .inl (D.1 100, 20, .inl bt)), (a6, .inl (D.1 100, 20, .inl bs))]) hX dX7_told_1 cw_X7_233 (ct_X7_layClasses  (by first | with_reducible assumption | rfl) (by first | with_reducible assumption | rfl) (by first | with_reducible assumption | rfl)) 0 8 [0, 1, 2, 3] rfl rfl rfl rfl (by decide) rfl rfl ⟨by decide, by decide⟩ (Nat.le_of_ble_eq_true rfl) (Nat.le_refl _) (Nat.le_refl _) rfl ?_
  refine g_iload_n hX dX7_told_4 rfl ?_
  by_cases hs5_0 : what = nI 0
  · subst hs5_0
    refine g_tswj (tgt := 48) hX dX7_told_5 0 rfl (by decide) rfl (by decide) ?_
    refine g_aload_n hX dX7_told_48 rfl ?_
    refine g_getf hX dX7_told_49 fk_X7_7 0 rfl rfl ?_
    refine g_iconst hX dX7_told_52 kn_i_0 ?_
    refine g_iald hX dX7_told_53 1 rfl (by decide) (by omega) ?_
    subst hQ
    exact g_zretU hX dX7_told_54 (vp_nar_int _) (w 0, layQ w q, layC w cl) (⟨rfl, (toldV_n (k := 0) (by decide)).symm⟩) rfl (Nat.le_refl _) (Nat.le_refl _)
  by_cases hs5_1 : what = nI 1
  · subst hs5_1
    refine g_tswj (tgt := 55) hX dX7_told_5 1 rfl (by decide) rfl (by decide) ?_
    refine g_aload_n hX dX7_told_55 rfl ?_
    refine g_getf hX dX7_told_56 fk_X7_35 0 rfl rfl ?_
    refine g_iload_n hX dX7_told_59 rfl ?_
    refine g_iconst hX dX7_told_60 kn_i_1 ?_
    refine g_isubN hX dX7_told_61 (by omega) ?_
    refine g_iald hX dX7_told_62 3 rfl (by decide) (by omega) ?_
    subst hQ
    exact g_zretU hX dX7_told_63 (vp_nar_int _) ((layC w cl) (1 - 1), layQ w q, layC w cl) (⟨rfl, (layC_0 w cl).trans (toldV_n (k := 1) (by decide)).symm⟩) rfl (Nat.le_refl _) (Nat.le_refl _)
  by_cases hs5_2 : what = nI 2
  · subst hs5_2
    refine g_tswj (tgt := 55) hX dX7_told_5 2 rfl (by decide) rfl (by decide) ?_
    refine g_aload_n hX dX7_told_55 rfl ?_
    refine g_getf hX dX7_told_56 fk_X7_35 0 rfl rfl ?_
    refine g_iload_n hX dX7_told_59 rfl ?_
    refine g_iconst hX dX7_told_60 kn_i_1 ?_
    refine g_isubN hX dX7_told_61 (by omega) ?_
    refine g_iald hX dX7_told_62 3 rfl (by decide) (by omega) ?_
    subst hQ
    exact g_zretU hX dX7_told_63 (vp_nar_int _) ((layC w cl) (2 - 1), layQ w q, layC w cl) (⟨rfl, (layC_1 w cl).trans (toldV_n (k := 2) (by decide)).symm⟩) rfl (Nat.le_refl _) (Nat.le_refl _)
  by_cases hs5_3 : what = nI 3
  · subst hs5_3
    refine g_tswj (tgt := 64) hX dX7_told_5 3 rfl (by decide) rfl (by decide) ?_
    refine g_aload_n hX dX7_told_64 rfl ?_
    refine g_callRi hX dX7_told_65 cw_X7_249 (ct_X7_judgedMany  (by first | with_reducible assumption | rfl)) 0 8 [0, 1] rfl rfl rfl rfl (by decide) rfl ⟨by decide, by decide⟩ (Nat.le_of_ble_eq_true rfl) (Nat.le_refl _) (Nat.le_refl _) ?_
    subst hQ
    exact g_zretU hX dX7_told_68 (vp_nar_int _) (jmTo w 64, layQ w q, layC w cl) (⟨rfl, (toldV_n (k := 3) (by decide)).symm⟩) rfl (Nat.le_refl _) (Nat.le_refl _)
  by_cases hs5_4 : what = nI 4
  · subst hs5_4
    refine g_tswj (tgt := 69) hX dX7_told_5 4 rfl (by decide) rfl (by decide) ?_
    refine g_aload_n hX dX7_told_69 rfl ?_
    refine g_callRi hX dX7_told_70 cw_X7_252 (ct_X7_strangeMany  (by first | with_reducible assumption | rfl) (by first | with_reducible assumption | rfl)) 0 8 [0, 1, 2] rfl rfl rfl rfl (by decide) rfl ⟨by decide, by decide⟩ (Nat.le_of_ble_eq_true rfl) (Nat.le_refl _) (Nat.le_refl _) ?_
    subst hQ
    exact g_zretU hX dX7_told_73 (vp_nar_int _) (smTo w (layQ w q) 64, layQ w q, layC w cl) (⟨rfl, (smTo_q (cq_q w q) 64 (Nat.le_refl _)).trans (toldV_n (k := 4) (by decide)).symm⟩) rfl (Nat.le_refl _) (Nat.le_refl _)
  by_cases hs5_5 : what = nI 5
  · subst hs5_5
    refine g_tswj (tgt := 74) hX dX7_told_5 5 rfl (by decide) rfl (by decide) ?_
    refine g_aload_n hX dX7_told_74 rfl ?_
    refine g_getf hX dX7_told_75 fk_X7_35 0 rfl rfl ?_
    refine g_iconst hX dX7_told_78 kn_i_0 ?_
    refine g_iald hX dX7_told_79 3 rfl (by decide) (by omega) ?_
    refine g_aload_n hX dX7_told_80 rfl ?_
    refine g_getf hX dX7_told_81 fk_X7_35 0 rfl rfl ?_
    refine g_iconst hX dX7_told_84 kn_i_1 ?_
    refine g_iald hX dX7_told_85 3 rfl (by decide) (by omega) ?_
    refine g_imul hX dX7_told_86 ?_
    refine g_aload_n hX dX7_told_87 rfl ?_
    refine g_callRi hX dX7_told_88 cw_X7_252 (ct_X7_strangeMany  (by first | with_reducible assumption | rfl) (by first | with_reducible assumption | rfl)) 0 8 [0, 1, 2] rfl rfl rfl rfl (by decide) rfl ⟨by decide, by decide⟩ (Nat.le_of_ble_eq_true rfl) (Nat.le_refl _) (Nat.le_refl _) ?_
    refine g_iadd hX dX7_told_91 ?_
    subst hQ
    exact g_zretU hX dX7_told_92 (vp_nar_int _) ((((layC w cl) 0) * ((layC w cl) 1)) + (smTo w (layQ w q) 64), layQ w q, layC w cl) (⟨rfl, by rw [layC_0, layC_1, smTo_q (cq_q w q) 64 (Nat.le_refl _)]; exact (toldV_n (k := 5) (by decide)).symm⟩) rfl (Nat.le_refl _) (Nat.le_refl _)
  by_cases hs5_6 : what = nI 6
  · subst hs5_6
    refine g_tswj (tgt := 93) hX dX7_told_5 6 rfl (by decide) rfl (by decide) ?_
    refine g_aload_n hX dX7_told_93 rfl ?_
    refine g_callRi hX dX7_told_94 cw_X7_255 (ct_X7_misses  (by first | with_reducible assumption | rfl) (by first | with_reducible assumption | rfl) (okW.miss hw)) 0 8 [0, 1, 2] rfl rfl rfl rfl (by decide) rfl ⟨by decide, by decide⟩ (Nat.le_of_ble_eq_true rfl) (Nat.le_refl _) (Nat.le_refl _) ?_
    subst hQ
    exact g_zretU hX dX7_told_97 (vp_nar_int _) (miTo w (layQ w q) 64, layQ w q, layC w cl) (⟨rfl, (miTo_q (cq_q w q) 64 (Nat.le_refl _)).trans (toldV_n (k := 6) (by decide)).symm⟩) rfl (Nat.le_refl _) (Nat.le_refl _)
  have hsw5 : what.toInt < 0 ∨ 6 < what.toInt := sw_out (lo := 0) (n := 7) (by decide) (fun j hj => match j, hj with | 0, _ => hs5_0 | 1, _ => hs5_1 | 2, _ => hs5_2 | 3, _ => hs5_3 | 4, _ => hs5_4 | 5, _ => hs5_5 | 6, _ => hs5_6 | j + 7, hj => absurd hj (by omega))
  refine g_tswo (tgt := 98) hX dX7_told_5 hsw5 (by decide) ?_
  refine g_aload_n hX dX7_told_98 rfl ?_
  refine g_iload_n hX dX7_told_99 rfl ?_
  refine g_callRi hX dX7_told_100 cw_X7_258 (ct_X7_toldMore  (cq_q w q) (by omega)) 0 8 [0, 1, 2, 4, 5, 6] rfl rfl rfl rfl (by decide) rfl ⟨by decide, by decide⟩ (Nat.le_of_ble_eq_true rfl) (Nat.le_refl _) (Nat.le_refl _) ?_
  subst hQ
  exact g_zretU hX dX7_told_103 (vp_nar_int _) (toldX w bo bt bs uk sz wr sd what, layQ w q, layC w cl) (⟨rfl, toldX_V hsw5⟩) rfl (Nat.le_refl _) (Nat.le_refl _)
