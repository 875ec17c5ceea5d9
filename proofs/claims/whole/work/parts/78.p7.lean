set_option maxRecDepth 100000 in
set_option maxHeartbeats 4000000 in
theorem ct_X7_setEdge {l : Launch} {D : va_G} {a0 a1 : Nat} {fs : List Value} {w : Nat → Int32} {c side v : Nat} (hf : fs[0]? = some (.ref a1)) (hc : c < 8) (hs : side < 2) (hv : v ≤ 99999) : Cf l D yX7_setEdge cX7_setEdge 6 none 0 0 [.ref a0, .int (nI c), .int (nI side), .int (nI v)] [(a0, .inr (8, fs)), (a1, .inl (D.1 100, 3318, .inl w))] none [(a0, .inr (8, fs)), (a1, .inl (D.1 100, 3318, .inl (rEdge w c side (dgt v))))] := by
  refine Ct.ofG (by decide) (Nat.le_of_ble_eq_true rfl) ?_
  intro X hX
  have hX : CX X l D RX7 "setEdge" cX7_setEdge 6 none 0 0 0 0 := hX
  show G X (QF X none [(a0, .inr (8, fs)), (a1, .inl (D.1 100, 3318, .inl (rEdge w c side (dgt v))))]) [(a0, .inr (8, fs)), (a1, .inl (D.1 100, 3318, .inl w))] 0 0 0 [some (.ref a0), some (.int (nI c)), some (.int (nI side)), some (.int (nI v)), none, none] []
  generalize hQ : QF X none [(a0, .inr (8, fs)), (a1, .inl (D.1 100, 3318, .inl (rEdge w c side (dgt v))))] = Q
  refine g_iload_n hX dX7_setEdge_0 rfl ?_
  refine g_istore (L' := [some (.ref a0), some (.int (nI c)), some (.int (nI side)), some (.int (nI v)), some (.int (nI v)), none]) hX dX7_setEdge_1 (by decide) rfl ?_
  refine g_iconst hX dX7_setEdge_3 kn_i_4 ?_
  refine g_istore (L' := [some (.ref a0), some (.int (nI c)), some (.int (nI side)), some (.int (nI v)), some (.int (nI v)), some (.int (nI 4))]) hX dX7_setEdge_4 (by decide) rfl ?_
  have loop6 : ∀ h : Nat, h ≤ 5 → G X Q [(a0, .inr (8, fs)), (a1, .inl (D.1 100, 3318, .inl (rEdgeFr w c side (dgt v) h)))] 0 0 6 [some (.ref a0), some (.int (nI c)), some (.int (nI side)), some (.int (nI v)), some (.int (nI (dv v (5 - h)))), some (.int (nI h - nI 1))] [] := by
    refine loopD (fun h ih6 hh6 => ?_)
    refine g_iload hX dX7_setEdge_6 rfl ?_
    refine g_if_lt (tgt := 48) hX dX7_setEdge_8 (by decide) (fun h8 => ?_) (fun h8 => ?_)
    · skip
      obtain rfl : h = 0 := pj_z hh6 h8
      subst hQ
      exact g_vret hX dX7_setEdge_48 rfl (rfl) rfl rfl
    · skip
      obtain ⟨j, rfl⟩ : ∃ j, h = j + 1 := by rcases Nat.eq_zero_or_pos h with z | z; (subst z; exact absurd pj_neg h8); exact ⟨h - 1, by omega⟩
      refine g_to (L' := [some (.ref a0), some (.int (nI c)), some (.int (nI side)), some (.int (nI v)), some (.int (nI (dv v (5 - (j + 1))))), some (.int (nI j))]) ?_ ⟨rfl, rfl, rfl, rfl, rfl, (congrArg some (congrArg Value.int pj_1)), trivial⟩
      have hdv := dv_le v (5 - (j + 1))
      refine g_aload_n hX dX7_setEdge_11 rfl ?_
      refine g_getf hX dX7_setEdge_12 fk_X7_7 0 rfl hf ?_
      refine g_bipush hX dX7_setEdge_15 kn_b_6 ?_
      refine g_bipush hX dX7_setEdge_17 kn_b_40 ?_
      refine g_iload_n hX dX7_setEdge_19 rfl ?_
      refine g_imulN hX dX7_setEdge_20 ?_
      refine g_iaddN hX dX7_setEdge_21 ?_
      refine g_iconst hX dX7_setEdge_22 kn_i_5 ?_
      refine g_iload_n hX dX7_setEdge_23 rfl ?_
      refine g_imulN hX dX7_setEdge_24 ?_
      refine g_iaddN hX dX7_setEdge_25 ?_
      refine g_iload hX dX7_setEdge_26 rfl ?_
      refine g_iaddN hX dX7_setEdge_28 ?_
      refine g_iload hX dX7_setEdge_29 rfl ?_
      refine g_bipush hX dX7_setEdge_31 kn_b_10 ?_
      refine g_iremN hX dX7_setEdge_33 (by omega) (by omega) (by omega) ?_
      refine g_iast (ws' := [(a0, .inr (8, fs)), (a1, .inl (D.1 100, 3318, .inl (upd (rEdgeFr w c side (dgt v) (j + 1)) (((6 + (40 * side)) + (5 * c)) + j) (nI ((dv v (5 - (j + 1))) % 10)))))]) hX dX7_setEdge_34 1 rfl (by decide) (by omega) rfl ?_
      refine g_iload hX dX7_setEdge_35 rfl ?_
      refine g_bipush hX dX7_setEdge_37 kn_b_10 ?_
      refine g_idivN hX dX7_setEdge_39 (by omega) (by omega) (by omega) ?_
      refine g_istore (L' := [some (.ref a0), some (.int (nI c)), some (.int (nI side)), some (.int (nI v)), some (.int (nI ((dv v (5 - (j + 1))) / 10))), some (.int (nI j))]) hX dX7_setEdge_40 (by decide) rfl ?_
      refine g_iinc (L' := [some (.ref a0), some (.int (nI c)), some (.int (nI side)), some (.int (nI v)), some (.int (nI ((dv v (5 - (j + 1))) / 10))), some (.int ((nI j) + (-1)))]) hX dX7_setEdge_42 rfl (by rfl) (by decide) rfl ?_
      refine g_goto (tgt := 6) hX dX7_setEdge_45 (by decide) ?_
      exact g_fin (ih6 j (by omega) (by omega)) (by rw [rEdgeFr_s _ _ _ _ (by omega)]) rfl ⟨rfl, rfl, rfl, rfl, (congrArg some (congrArg Value.int (dv_s v (by omega)))), (congrArg some (congrArg Value.int pj_m)), trivial⟩
  exact g_fin (loop6 5 (by omega)) (by rw [rEdgeFr_5]) rfl ⟨rfl, rfl, rfl, rfl, rfl, (congrArg some (congrArg Value.int (by decide))), trivial⟩
set_option maxRecDepth 100000 in
set_option maxHeartbeats 4000000 in
theorem ct_X7_ones {l : Launch} {D : va_G} {k : Int32}  : Cf l D yX7_ones cX7_ones 3 (some .int) 0 0 [.int k] [] (some (.int (onesTo k 8))) [] := by
  refine Ct.ofG (by decide) (Nat.le_of_ble_eq_true rfl) ?_
  intro X hX
  have hX : CX X l D RX7 "ones" cX7_ones 3 (some .int) 0 0 0 0 := hX
  show G X (QF X (some (.int (onesTo k 8))) []) [] 0 0 0 [some (.int k), none, none] []
  generalize hQ : QF X (some (.int (onesTo k 8))) [] = Q
  refine g_iconst hX dX7_ones_0 kn_i_0 ?_
  refine g_istore_n (L' := [some (.int k), some (.int (nI 0)), none]) hX dX7_ones_1 (by decide) rfl ?_
  refine g_iconst hX dX7_ones_2 kn_i_0 ?_
  refine g_istore_n (L' := [some (.int k), some (.int (nI 0)), some (.int (nI 0))]) hX dX7_ones_3 (by decide) rfl ?_
  have loop4 : ∀ i : Nat, i ≤ 8 → G X Q [] 0 0 4 [some (.int k), some (.int (onesTo k i)), some (.int (nI i))] [] := by
    refine loopN 8 (fun i hh4 ih4 => ?_)
    refine g_iload_n hX dX7_ones_4 rfl ?_
    refine g_bipush hX dX7_ones_5 kn_b_8 ?_
    refine g_icmpN_ge (tgt := 24) hX dX7_ones_7 (by decide) (by omega) (by omega) (fun h7 => ?_) (fun h7 => ?_)
    · skip
      obtain rfl : i = 8 := by omega
      refine g_iload_n hX dX7_ones_24 rfl ?_
      subst hQ
      exact g_iret hX dX7_ones_25 (rfl) (rfl) rfl rfl
    · skip
      refine g_iload_n hX dX7_ones_10 rfl ?_
      refine g_iload_n hX dX7_ones_11 rfl ?_
      refine g_iload_n hX dX7_ones_12 rfl ?_
      refine g_ishr hX dX7_ones_13 ?_
      refine g_iconst hX dX7_ones_14 kn_i_1 ?_
      refine g_iand hX dX7_ones_15 ?_
      refine g_iadd hX dX7_ones_16 ?_
      refine g_istore_n (L' := [some (.int k), some (.int ((onesTo k i) + ((k >>> ((nI i) &&& 31)) &&& (nI 1)))), some (.int (nI i))]) hX dX7_ones_17 (by decide) rfl ?_
      refine g_iincN (L' := [some (.int k), some (.int ((onesTo k i) + ((k >>> ((nI i) &&& 31)) &&& (nI 1)))), some (.int (nI (i + 1)))]) hX dX7_ones_18 rfl (by decide) rfl ?_
      refine g_goto (tgt := 4) hX dX7_ones_21 (by decide) ?_
      exact g_fin (ih4 (by omega) ) (rfl) rfl ⟨rfl, rfl, rfl, trivial⟩
  exact g_fin (loop4 0 (by omega) ) (rfl) rfl ⟨rfl, rfl, rfl, trivial⟩
set_option maxRecDepth 100000 in
set_option maxHeartbeats 4000000 in
theorem ct_X7_letter {l : Launch} {D : va_G} {a0 a1 a2 a3 a4 a5 a6 a7 a8 a9 a10 uk sz wr pa fl ln : Nat} {kp sd fa : Int32} {w : Nat → Int32} {c le ri d : Int32} (hu : uk ≤ 16) : Ct (S := Int32 × (Nat → Int32) × Nat) l D yX7_letter cX7_letter 5 (some .int) 2 44 0 0 [.ref a0, .int c, .int le, .int ri, .int d] [(a0, .inr (8, [.ref a1, .int (nI uk), .int kp, .int sd, .ref a2, .ref a3, .int (nI sz), .int fa, .ref a4, .ref a5, .ref a6, .int (nI wr), .ref a7, .ref a8, .int (nI pa), .int (nI fl), .ref a9, .int (nI ln), .ref a10])), (a1, .inl (D.1 100, 3318, .inl w))] (fun (r : Option Value) (u : Int32 × (Nat → Int32) × Nat) => match u with | (V, W, U) => r = (some (.int V)) ∧ ((V, W, U) = letterR w uk c le ri d)) (fun (u : Int32 × (Nat → Int32) × Nat) => match u with | (V, W, U) => ([(a0, .inr (8, [.ref a1, .int (nI U), .int kp, .int sd, .ref a2, .ref a3, .int (nI sz), .int fa, .ref a4, .ref a5, .ref a6, .int (nI wr), .ref a7, .ref a8, .int (nI pa), .int (nI fl), .ref a9, .int (nI ln), .ref a10])), (a1, .inl (D.1 100, 3318, .inl W))] : va_W)) := by
  refine Ct.ofG (by decide) (Nat.le_of_ble_eq_true rfl) ?_
  intro X hX
  have hX : CX X l D RX7 "letter" cX7_letter 5 (some .int) 2 44 0 0 := hX
  show G X (QM X 0 0 (fun (r : Option Value) (u : Int32 × (Nat → Int32) × Nat) => match u with | (V, W, U) => r = (some (.int V)) ∧ ((V, W, U) = letterR w uk c le ri d)) (fun (u : Int32 × (Nat → Int32) × Nat) => match u with | (V, W, U) => ([(a0, .inr (8, [.ref a1, .int (nI U), .int kp, .int sd, .ref a2, .ref a3, .int (nI sz), .int fa, .ref a4, .ref a5, .ref a6, .int (nI wr), .ref a7, .ref a8, .int (nI pa), .int (nI fl), .ref a9, .int (nI ln), .ref a10])), (a1, .inl (D.1 100, 3318, .inl W))] : va_W))) [(a0, .inr (8, [.ref a1, .int (nI uk), .int kp, .int sd, .ref a2, .ref a3, .int (nI sz), .int fa, .ref a4, .ref a5, .ref a6, .int (nI wr), .ref a7, .ref a8, .int (nI pa), .int (nI fl), .ref a9, .int (nI ln), .ref a10])), (a1, .inl (D.1 100, 3318, .inl w))] 0 0 0 [some (.ref a0), some (.int c), some (.int le), some (.int ri), some (.int d)] []
  generalize hQ : QM X 0 0 (fun (r : Option Value) (u : Int32 × (Nat → Int32) × Nat) => match u with | (V, W, U) => r = (some (.int V)) ∧ ((V, W, U) = letterR w uk c le ri d)) (fun (u : Int32 × (Nat → Int32) × Nat) => match u with | (V, W, U) => ([(a0, .inr (8, [.ref a1, .int (nI U), .int kp, .int sd, .ref a2, .ref a3, .int (nI sz), .int fa, .ref a4, .ref a5, .ref a6, .int (nI wr), .ref a7, .ref a8, .int (nI pa), .int (nI fl), .ref a9, .int (nI ln), .ref a10])), (a1, .inl (D.1 100, 3318, .inl W))] : va_W)) = Q
  refine g_iload_n hX dX7_letter_0 rfl ?_
  refine g_i2l hX dX7_letter_1 ?_
  refine g_lconst (v := 0) hX dX7_letter_2 rfl ?_
  refine g_ldc2 hX dX7_letter_3 kc_X7_51 ?_
  refine g_callSRi hX dX7_letter_6 cw_X7_53 ct_X7_in [] rfl rfl (by decide) rfl ⟨by decide, by decide⟩ (Nat.le_of_ble_eq_true rfl) (Nat.le_refl _) (Nat.le_refl _) ?_
  refine g_ifb_eq (tgt := 49) hX dX7_letter_9 (by decide) (fun h9 => ?_) (fun h9 => ?_)
  · skip
    refine g_ldc hX dX7_letter_49 kc_X7_210 ?_
    subst hQ
    exact g_zretU hX dX7_letter_51 (vp_nar_int _) ((-1000000002), w, uk) (⟨rfl, (letterR_no (by unfold letB; rw [h9]; rfl)).symm⟩) rfl (Nat.le_refl _) (Nat.le_refl _)
  · skip
    refine g_iload_n hX dX7_letter_12 rfl ?_
    refine g_i2l hX dX7_letter_13 ?_
    refine g_lconst (v := 0) hX dX7_letter_14 rfl ?_
    refine g_ldc2 hX dX7_letter_15 kc_X7_268 ?_
    refine g_callSRi hX dX7_letter_18 cw_X7_53 ct_X7_in [] rfl rfl (by decide) rfl ⟨by decide, by decide⟩ (Nat.le_of_ble_eq_true rfl) (Nat.le_refl _) (Nat.le_refl _) ?_
    refine g_ifb_eq (tgt := 49) hX dX7_letter_21 (by decide) (fun h21 => ?_) (fun h21 => ?_)
    · skip
      refine g_ldc hX dX7_letter_49 kc_X7_210 ?_
      subst hQ
      exact g_zretU hX dX7_letter_51 (vp_nar_int _) ((-1000000002), w, uk) (⟨rfl, (letterR_no (by unfold letB; rw [h9, h21]; rfl)).symm⟩) rfl (Nat.le_refl _) (Nat.le_refl _)
    · skip
      refine g_iload_n hX dX7_letter_24 rfl ?_
      refine g_i2l hX dX7_letter_25 ?_
      refine g_lconst (v := 0) hX dX7_letter_26 rfl ?_
      refine g_ldc2 hX dX7_letter_27 kc_X7_268 ?_
      refine g_callSRi hX dX7_letter_30 cw_X7_53 ct_X7_in [] rfl rfl (by decide) rfl ⟨by decide, by decide⟩ (Nat.le_of_ble_eq_true rfl) (Nat.le_refl _) (Nat.le_refl _) ?_
      refine g_ifb_eq (tgt := 49) hX dX7_letter_33 (by decide) (fun h33 => ?_) (fun h33 => ?_)
      · skip
        refine g_ldc hX dX7_letter_49 kc_X7_210 ?_
        subst hQ
        exact g_zretU hX dX7_letter_51 (vp_nar_int _) ((-1000000002), w, uk) (⟨rfl, (letterR_no (by unfold letB; rw [h9, h21, h33]; rfl)).symm⟩) rfl (Nat.le_refl _) (Nat.le_refl _)
      · skip
        refine g_iload hX dX7_letter_36 rfl ?_
        refine g_i2l hX dX7_letter_38 ?_
        refine g_lconst (v := 1) hX dX7_letter_39 rfl ?_
        refine g_ldc2 hX dX7_letter_40 kc_X7_159 ?_
        refine g_callSRi hX dX7_letter_43 cw_X7_53 ct_X7_in [] rfl rfl (by decide) rfl ⟨by decide, by decide⟩ (Nat.le_of_ble_eq_true rfl) (Nat.le_refl _) (Nat.le_refl _) ?_
        refine g_ifb_ne (tgt := 52) hX dX7_letter_46 (by decide) (fun h46 => ?_) (fun h46 => ?_)
        · skip
          have hB : letB c le ri d = true := by unfold letB; rw [h9, h21, h33, h46]; rfl
          obtain ⟨c1, hc1, ec1⟩ := inT (n := 7) (by decide) h9
          subst ec1
          obtain ⟨l1, hl1, el1⟩ := inT (n := 99999) (by decide) h21
          subst el1
          obtain ⟨r1, hr1, er1⟩ := inT (n := 99999) (by decide) h33
          subst er1
          obtain ⟨d1, gd1, hd1, ed1⟩ := inT1 (n := 9) (by decide) h46
          subst ed1
          refine g_aload_n hX dX7_letter_52 rfl ?_
          refine g_callFv (ws' := [(a0, .inr (8, [.ref a1, .int (nI (if 16 ≤ uk then 16 else uk + 1)), .int kp, .int sd, .ref a2, .ref a3, .int (nI sz), .int fa, .ref a4, .ref a5, .ref a6, .int (nI wr), .ref a7, .ref a8, .int (nI pa), .int (nI fl), .ref a9, .int (nI ln), .ref a10])), (a1, .inl (D.1 100, 3318, .inl (memTo w 0)))]) hX dX7_letter_53 cw_X7_215 (ct_X7_remember  (by omega)) 0 8 [0, 1] rfl rfl rfl rfl (by decide) rfl rfl ⟨by decide, by decide⟩ (Nat.le_of_ble_eq_true rfl) (Nat.le_refl _) (Nat.le_refl _) rfl ?_
          refine g_aload_n hX dX7_letter_56 rfl ?_
          refine g_iload_n hX dX7_letter_57 rfl ?_
          refine g_iconst hX dX7_letter_58 kn_i_0 ?_
          refine g_iload_n hX dX7_letter_59 rfl ?_
          refine g_callFv (ws' := [(a0, .inr (8, [.ref a1, .int (nI (if 16 ≤ uk then 16 else uk + 1)), .int kp, .int sd, .ref a2, .ref a3, .int (nI sz), .int fa, .ref a4, .ref a5, .ref a6, .int (nI wr), .ref a7, .ref a8, .int (nI pa), .int (nI fl), .ref a9, .int (nI ln), .ref a10])), (a1, .inl (D.1 100, 3318, .inl (rEdge (memTo w 0) c1 0 (dgt l1))))]) hX dX7_letter_60 cw_X7_270 (ct_X7_setEdge  (by first | with_reducible assumption | rfl) (by omega) (by omega) (by omega)) 0 8 [0, 1] rfl rfl rfl rfl (by decide) rfl rfl ⟨by decide, by decide⟩ (Nat.le_of_ble_eq_true rfl) (Nat.le_refl _) (Nat.le_refl _) rfl ?_
          refine g_aload_n hX dX7_letter_63 rfl ?_
          refine g_iload_n hX dX7_letter_64 rfl ?_
          refine g_iconst hX dX7_letter_65 kn_i_1 ?_
          refine g_iload_n hX dX7_letter_66 rfl ?_
          refine g_callFv (ws' := [(a0, .inr (8, [.ref a1, .int (nI (if 16 ≤ uk then 16 else uk + 1)), .int kp, .int sd, .ref a2, .ref a3, .int (nI sz), .int fa, .ref a4, .ref a5, .ref a6, .int (nI wr), .ref a7, .ref a8, .int (nI pa), .int (nI fl), .ref a9, .int (nI ln), .ref a10])), (a1, .inl (D.1 100, 3318, .inl (rEdge (rEdge (memTo w 0) c1 0 (dgt l1)) c1 1 (dgt r1))))]) hX dX7_letter_67 cw_X7_270 (ct_X7_setEdge  (by first | with_reducible assumption | rfl) (by omega) (by omega) (by omega)) 0 8 [0, 1] rfl rfl rfl rfl (by decide) rfl rfl ⟨by decide, by decide⟩ (Nat.le_of_ble_eq_true rfl) (Nat.le_refl _) (Nat.le_refl _) rfl ?_
          refine g_aload_n hX dX7_letter_70 rfl ?_
          refine g_getf hX dX7_letter_71 fk_X7_7 0 rfl rfl ?_
          refine g_bipush hX dX7_letter_74 kn_b_86 ?_
          refine g_iload_n hX dX7_letter_76 rfl ?_
          refine g_iaddN hX dX7_letter_77 ?_
          refine g_iload hX dX7_letter_78 rfl ?_
          refine g_iast (ws' := [(a0, .inr (8, [.ref a1, .int (nI (if 16 ≤ uk then 16 else uk + 1)), .int kp, .int sd, .ref a2, .ref a3, .int (nI sz), .int fa, .ref a4, .ref a5, .ref a6, .int (nI wr), .ref a7, .ref a8, .int (nI pa), .int (nI fl), .ref a9, .int (nI ln), .ref a10])), (a1, .inl (D.1 100, 3318, .inl (upd (rEdge (rEdge (memTo w 0) c1 0 (dgt l1)) c1 1 (dgt r1)) (86 + c1) (nI d1))))]) hX dX7_letter_80 1 rfl (by decide) (by omega) rfl ?_
          refine g_aload_n hX dX7_letter_81 rfl ?_
          refine g_getf hX dX7_letter_82 fk_X7_7 0 rfl rfl ?_
          refine g_iconst hX dX7_letter_85 kn_i_0 ?_
          refine g_dup2 hX dX7_letter_86 rfl rfl ?_
          refine g_iald hX dX7_letter_87 1 rfl (by decide) (by omega) ?_
          refine g_iconst hX dX7_letter_88 kn_i_1 ?_
          refine g_iload_n hX dX7_letter_89 rfl ?_
          refine g_ishl hX dX7_letter_90 ?_
          refine g_ior hX dX7_letter_91 ?_
          refine g_iast (ws' := [(a0, .inr (8, [.ref a1, .int (nI (if 16 ≤ uk then 16 else uk + 1)), .int kp, .int sd, .ref a2, .ref a3, .int (nI sz), .int fa, .ref a4, .ref a5, .ref a6, .int (nI wr), .ref a7, .ref a8, .int (nI pa), .int (nI fl), .ref a9, .int (nI ln), .ref a10])), (a1, .inl (D.1 100, 3318, .inl (upd (upd (rEdge (rEdge (memTo w 0) c1 0 (dgt l1)) c1 1 (dgt r1)) (86 + c1) (nI d1)) 0 (((upd (rEdge (rEdge (memTo w 0) c1 0 (dgt l1)) c1 1 (dgt r1)) (86 + c1) (nI d1)) 0) ||| ((nI 1) <<< ((nI c1) &&& 31))))))]) hX dX7_letter_92 1 rfl (by decide) (by omega) rfl ?_
          refine g_aload_n hX dX7_letter_93 rfl ?_
          refine g_getf hX dX7_letter_94 fk_X7_7 0 rfl rfl ?_
          refine g_iconst hX dX7_letter_97 kn_i_0 ?_
          refine g_iald hX dX7_letter_98 1 rfl (by decide) (by omega) ?_
          refine g_callSRi hX dX7_letter_99 cw_X7_273 ct_X7_ones [] rfl rfl (by decide) rfl ⟨by decide, by decide⟩ (Nat.le_of_ble_eq_true rfl) (Nat.le_refl _) (Nat.le_refl _) ?_
          subst hQ
          exact g_zretU hX dX7_letter_102 (vp_nar_int _) (onesTo ((upd (upd (rEdge (rEdge (memTo w 0) c1 0 (dgt l1)) c1 1 (dgt r1)) (86 + c1) (nI d1)) 0 (((upd (rEdge (rEdge (memTo w 0) c1 0 (dgt l1)) c1 1 (dgt r1)) (86 + c1) (nI d1)) 0) ||| ((nI 1) <<< ((nI c1) &&& 31)))) 0) 8, upd (upd (rEdge (rEdge (memTo w 0) c1 0 (dgt l1)) c1 1 (dgt r1)) (86 + c1) (nI d1)) 0 (((upd (rEdge (rEdge (memTo w 0) c1 0 (dgt l1)) c1 1 (dgt r1)) (86 + c1) (nI d1)) 0) ||| ((nI 1) <<< ((nI c1) &&& 31))), if 16 ≤ uk then 16 else uk + 1) (⟨rfl, by rw [letterR_ok hB (by omega) hl1 hr1 hd1, letW_eq]; rfl⟩) rfl (Nat.le_refl _) (Nat.le_refl _)
        · skip
          refine g_ldc hX dX7_letter_49 kc_X7_210 ?_
          subst hQ
          exact g_zretU hX dX7_letter_51 (vp_nar_int _) ((-1000000002), w, uk) (⟨rfl, (letterR_no (by unfold letB; rw [h9, h21, h33, h46]; rfl)).symm⟩) rfl (Nat.le_refl _) (Nat.le_refl _)
set_option maxRecDepth 100000 in
set_option maxHeartbeats 4000000 in
theorem ct_X7_forget {l : Launch} {D : va_G} {a0 a1 a2 a3 a4 a5 a6 a7 a8 a9 a10 uk sz wr pa fl ln : Nat} {kp sd fa : Int32} {w : Nat → Int32} {c : Int32} (hu : uk ≤ 16) : Ct (S := Int32 × (Nat → Int32) × Nat) l D yX7_forget cX7_forget 3 (some .int) 2 46 0 0 [.ref a0, .int c] [(a0, .inr (8, [.ref a1, .int (nI uk), .int kp, .int sd, .ref a2, .ref a3, .int (nI sz), .int fa, .ref a4, .ref a5, .ref a6, .int (nI wr), .ref a7, .ref a8, .int (nI pa), .int (nI fl), .ref a9, .int (nI ln), .ref a10])), (a1, .inl (D.1 100, 3318, .inl w))] (fun (r : Option Value) (u : Int32 × (Nat → Int32) × Nat) => match u with | (V, W, U) => r = (some (.int V)) ∧ ((V, W, U) = forgetR w uk c)) (fun (u : Int32 × (Nat → Int32) × Nat) => match u with | (V, W, U) => ([(a0, .inr (8, [.ref a1, .int (nI U), .int kp, .int sd, .ref a2, .ref a3, .int (nI sz), .int fa, .ref a4, .ref a5, .ref a6, .int (nI wr), .ref a7, .ref a8, .int (nI pa), .int (nI fl), .ref a9, .int (nI ln), .ref a10])), (a1, .inl (D.1 100, 3318, .inl W))] : va_W)) := by
  refine Ct.ofG (by decide) (Nat.le_of_ble_eq_true rfl) ?_
  intro X hX
  have hX : CX X l D RX7 "forget" cX7_forget 3 (some .int) 2 46 0 0 := hX
  show G X (QM X 0 0 (fun (r : Option Value) (u : Int32 × (Nat → Int32) × Nat) => match u with | (V, W, U) => r = (some (.int V)) ∧ ((V, W, U) = forgetR w uk c)) (fun (u : Int32 × (Nat → Int32) × Nat) => match u with | (V, W, U) => ([(a0, .inr (8, [.ref a1, .int (nI U), .int kp, .int sd, .ref a2, .ref a3, .int (nI sz), .int fa, .ref a4, .ref a5, .ref a6, .int (nI wr), .ref a7, .ref a8, .int (nI pa), .int (nI fl), .ref a9, .int (nI ln), .ref a10])), (a1, .inl (D.1 100, 3318, .inl W))] : va_W))) [(a0, .inr (8, [.ref a1, .int (nI uk), .int kp, .int sd, .ref a2, .ref a3, .int (nI sz), .int fa, .ref a4, .ref a5, .ref a6, .int (nI wr), .ref a7, .ref a8, .int (nI pa), .int (nI fl), .ref a9, .int (nI ln), .ref a10])), (a1, .inl (D.1 100, 3318, .inl w))] 0 0 0 [some (.ref a0), some (.int c), none] []
  generalize hQ : QM X 0 0 (fun (r : Option Value) (u : Int32 × (Nat → Int32) × Nat) => match u with | (V, W, U) => r = (some (.int V)) ∧ ((V, W, U) = forgetR w uk c)) (fun (u : Int32 × (Nat → Int32) × Nat) => match u with | (V, W, U) => ([(a0, .inr (8, [.ref a1, .int (nI U), .int kp, .int sd, .ref a2, .ref a3, .int (nI sz), .int fa, .ref a4, .ref a5, .ref a6, .int (nI wr), .ref a7, .ref a8, .int (nI pa), .int (nI fl), .ref a9, .int (nI ln), .ref a10])), (a1, .inl (D.1 100, 3318, .inl W))] : va_W)) = Q
  refine g_aload_n hX dX7_forget_0 rfl ?_
  refine g_iload_n hX dX7_forget_1 rfl ?_
  refine g_callRi hX dX7_forget_2 cw_X7_69 (ct_X7_isKnown  (by first | with_reducible assumption | rfl)) 0 8 [0, 1] rfl rfl rfl rfl (by decide) rfl ⟨by decide, by decide⟩ (Nat.le_of_ble_eq_true rfl) (Nat.le_refl _) (Nat.le_refl _) ?_
  refine g_ifb_ne (tgt := 11) hX dX7_forget_5 (by decide) (fun h5 => ?_) (fun h5 => ?_)
  · skip
    obtain ⟨c1, hc1, ec1, kc1⟩ := isKn_in h5
    subst ec1
    refine g_aload_n hX dX7_forget_11 rfl ?_
    refine g_callFv (ws' := [(a0, .inr (8, [.ref a1, .int (nI (if 16 ≤ uk then 16 else uk + 1)), .int kp, .int sd, .ref a2, .ref a3, .int (nI sz), .int fa, .ref a4, .ref a5, .ref a6, .int (nI wr), .ref a7, .ref a8, .int (nI pa), .int (nI fl), .ref a9, .int (nI ln), .ref a10])), (a1, .inl (D.1 100, 3318, .inl (memTo w 0)))]) hX dX7_forget_12 cw_X7_215 (ct_X7_remember  (by omega)) 0 8 [0, 1] rfl rfl rfl rfl (by decide) rfl rfl ⟨by decide, by decide⟩ (Nat.le_of_ble_eq_true rfl) (Nat.le_refl _) (Nat.le_refl _) rfl ?_
    refine g_aload_n hX dX7_forget_15 rfl ?_
    refine g_getf hX dX7_forget_16 fk_X7_7 0 rfl rfl ?_
    refine g_iconst hX dX7_forget_19 kn_i_0 ?_
    refine g_dup2 hX dX7_forget_20 rfl rfl ?_
    refine g_iald hX dX7_forget_21 1 rfl (by decide) (by omega) ?_
    refine g_iconst hX dX7_forget_22 kn_i_1 ?_
    refine g_iload_n hX dX7_forget_23 rfl ?_
    refine g_ishl hX dX7_forget_24 ?_
    refine g_iconst hX dX7_forget_25 kn_i_m1 ?_
    refine g_ixor hX dX7_forget_26 ?_
    refine g_iand hX dX7_forget_27 ?_
    refine g_iast (ws' := [(a0, .inr (8, [.ref a1, .int (nI (if 16 ≤ uk then 16 else uk + 1)), .int kp, .int sd, .ref a2, .ref a3, .int (nI sz), .int fa, .ref a4, .ref a5, .ref a6, .int (nI wr), .ref a7, .ref a8, .int (nI pa), .int (nI fl), .ref a9, .int (nI ln), .ref a10])), (a1, .inl (D.1 100, 3318, .inl (upd (memTo w 0) 0 (((memTo w 0) 0) &&& (((nI 1) <<< ((nI c1) &&& 31)) ^^^ (-1))))))]) hX dX7_forget_28 1 rfl (by decide) (by omega) rfl ?_
    refine g_iconst hX dX7_forget_29 kn_i_0 ?_
    refine g_istore_n (L' := [some (.ref a0), some (.int (nI c1)), some (.int (nI 0))]) hX dX7_forget_30 (by decide) rfl ?_
    have loop31 : ∀ n : Nat, n ≤ 8 → G X Q [(a0, .inr (8, [.ref a1, .int (nI (if 16 ≤ uk then 16 else uk + 1)), .int kp, .int sd, .ref a2, .ref a3, .int (nI sz), .int fa, .ref a4, .ref a5, .ref a6, .int (nI wr), .ref a7, .ref a8, .int (nI pa), .int (nI fl), .ref a9, .int (nI ln), .ref a10])), (a1, .inl (D.1 100, 3318, .inl (forgTo (upd (memTo w 0) 0 (memTo w 0 0 &&& ((nI 1 <<< (nI c1 &&& 31)) ^^^ (-1)))) c1 n)))] 0 0 31 [some (.ref a0), some (.int (nI c1)), some (.int (nI n))] [] := by
      refine loopN 8 (fun n hh31 ih31 => ?_)
      refine g_iload_n hX dX7_forget_31 rfl ?_
      refine g_bipush hX dX7_forget_32 kn_b_8 ?_
      refine g_icmpN_ge (tgt := 73) hX dX7_forget_34 (by decide) (by omega) (by omega) (fun h34 => ?_) (fun h34 => ?_)
      · skip
        obtain rfl : n = 8 := by omega
        refine g_aload_n hX dX7_forget_73 rfl ?_
        refine g_getf hX dX7_forget_74 fk_X7_7 0 rfl rfl ?_
        refine g_iconst hX dX7_forget_77 kn_i_0 ?_
        refine g_iald hX dX7_forget_78 1 rfl (by decide) (by omega) ?_
        refine g_callSRi hX dX7_forget_79 cw_X7_273 ct_X7_ones [] rfl rfl (by decide) rfl ⟨by decide, by decide⟩ (Nat.le_of_ble_eq_true rfl) (Nat.le_refl _) (Nat.le_refl _) ?_
        subst hQ
        exact g_zretU hX dX7_forget_82 (vp_nar_int _) (onesTo ((forgTo (upd (memTo w 0) 0 (memTo w 0 0 &&& ((nI 1 <<< (nI c1 &&& 31)) ^^^ (-1)))) c1 8) 0) 8, forgTo (upd (memTo w 0) 0 (memTo w 0 0 &&& ((nI 1 <<< (nI c1 &&& 31)) ^^^ (-1)))) c1 8, if 16 ≤ uk then 16 else uk + 1) (⟨rfl, (forgetR_ok hc1 kc1).symm⟩) rfl (Nat.le_refl _) (Nat.le_refl _)
      · skip
        refine g_aload_n hX dX7_forget_37 rfl ?_
        refine g_getf hX dX7_forget_38 fk_X7_7 0 rfl rfl ?_
        refine g_bipush hX dX7_forget_41 kn_b_94 ?_
        refine g_bipush hX dX7_forget_43 kn_b_8 ?_
        refine g_iload_n hX dX7_forget_45 rfl ?_
        refine g_imulN hX dX7_forget_46 ?_
        refine g_iaddN hX dX7_forget_47 ?_
        refine g_iload_n hX dX7_forget_48 rfl ?_
        refine g_iaddN hX dX7_forget_49 ?_
        refine g_iconst hX dX7_forget_50 kn_i_0 ?_
        refine g_iast (ws' := [(a0, .inr (8, [.ref a1, .int (nI (if 16 ≤ uk then 16 else uk + 1)), .int kp, .int sd, .ref a2, .ref a3, .int (nI sz), .int fa, .ref a4, .ref a5, .ref a6, .int (nI wr), .ref a7, .ref a8, .int (nI pa), .int (nI fl), .ref a9, .int (nI ln), .ref a10])), (a1, .inl (D.1 100, 3318, .inl (upd (forgTo (upd (memTo w 0) 0 (memTo w 0 0 &&& ((nI 1 <<< (nI c1 &&& 31)) ^^^ (-1)))) c1 n) ((94 + (8 * c1)) + n) (nI 0))))]) hX dX7_forget_51 1 rfl (by decide) (by omega) rfl ?_
        refine g_aload_n hX dX7_forget_52 rfl ?_
        refine g_getf hX dX7_forget_53 fk_X7_7 0 rfl rfl ?_
        refine g_bipush hX dX7_forget_56 kn_b_94 ?_
        refine g_bipush hX dX7_forget_58 kn_b_8 ?_
        refine g_iload_n hX dX7_forget_60 rfl ?_
        refine g_imulN hX dX7_forget_61 ?_
        refine g_iaddN hX dX7_forget_62 ?_
        refine g_iload_n hX dX7_forget_63 rfl ?_
        refine g_iaddN hX dX7_forget_64 ?_
        refine g_iconst hX dX7_forget_65 kn_i_0 ?_
        refine g_iast (ws' := [(a0, .inr (8, [.ref a1, .int (nI (if 16 ≤ uk then 16 else uk + 1)), .int kp, .int sd, .ref a2, .ref a3, .int (nI sz), .int fa, .ref a4, .ref a5, .ref a6, .int (nI wr), .ref a7, .ref a8, .int (nI pa), .int (nI fl), .ref a9, .int (nI ln), .ref a10])), (a1, .inl (D.1 100, 3318, .inl (upd (upd (forgTo (upd (memTo w 0) 0 (memTo w 0 0 &&& ((nI 1 <<< (nI c1 &&& 31)) ^^^ (-1)))) c1 n) ((94 + (8 * c1)) + n) (nI 0)) ((94 + (8 * n)) + c1) (nI 0))))]) hX dX7_forget_66 1 rfl (by decide) (by omega) rfl ?_
        refine g_iincN (L' := [some (.ref a0), some (.int (nI c1)), some (.int (nI (n + 1)))]) hX dX7_forget_67 rfl (by decide) rfl ?_
        refine g_goto (tgt := 31) hX dX7_forget_70 (by decide) ?_
        exact g_fin (ih31 (by omega) ) (by rw [forgTo_s _ hc1 (by omega)]) rfl ⟨rfl, rfl, rfl, trivial⟩
    exact g_fin (loop31 0 (by omega) ) (by rw [forgTo_0]) rfl ⟨rfl, rfl, rfl, trivial⟩
  · skip
    refine g_ldc hX dX7_forget_8 kc_X7_239 ?_
    subst hQ
    exact g_zretU hX dX7_forget_10 (vp_nar_int _) ((-1000000001), w, uk) (⟨rfl, (forgetR_no h5).symm⟩) rfl (Nat.le_refl _) (Nat.le_refl _)
set_option maxRecDepth 100000 in
set_option maxHeartbeats 4000000 in
theorem ct_X7_judge {l : Launch} {D : va_G} {a0 a1 a2 a3 a4 a5 a6 a7 a8 a9 a10 uk sz wr pa fl ln : Nat} {kp sd fa : Int32} {w q cl : Nat → Int32} {c d g : Int32} (hu : uk ≤ 16) : Ct (S := Int32 × (Nat → Int32) × Nat × (Nat → Int32) × (Nat → Int32)) l D yX7_judge cX7_judge 4 (some .int) 9 215 0 0 [.ref a0, .int c, .int d, .int g] [(a0, .inr (8, [.ref a1, .int (nI uk), .int kp, .int sd, .ref a2, .ref a3, .int (nI sz), .int fa, .ref a4, .ref a5, .ref a6, .int (nI wr), .ref a7, .ref a8, .int (nI pa), .int (nI fl), .ref a9, .int (nI ln), .ref a10])), (a1, .inl (D.1 100, 3318, .inl w)), (a7, .inl (D.1 100, 16, .inl q)), (a8, .inl (D.1 100, 2, .inl cl))] (fun (r : Option Value) (u : Int32 × (Nat → Int32) × Nat × (Nat → Int32) × (Nat → Int32)) => match u with | (V, W, U, Qn, Cn) => r = (some (.int V)) ∧ ((V, W, U) = judgeR w uk c d g)) (fun (u : Int32 × (Nat → Int32) × Nat × (Nat → Int32) × (Nat → Int32)) => match u with | (V, W, U, Qn, Cn) => ([(a0, .inr (8, [.ref a1, .int (nI U), .int kp, .int sd, .ref a2, .ref a3, .int (nI sz), .int fa, .ref a4, .ref a5, .ref a6, .int (nI wr), .ref a7, .ref a8, .int (nI pa), .int (nI fl), .ref a9, .int (nI ln), .ref a10])), (a1, .inl (D.1 100, 3318, .inl W)), (a7, .inl (D.1 100, 16, .inl Qn)), (a8, .inl (D.1 100, 2, .inl Cn))] : va_W)) := by
  refine Ct.ofG (by decide) (Nat.le_of_ble_eq_true rfl) ?_
  intro X hX
  have hX : CX X l D RX7 "judge" cX7_judge 4 (some .int) 9 215 0 0 := hX
  show G X (QM X 0 0 (fun (r : Option Value) (u : Int32 × (Nat → Int32) × Nat × (Nat → Int32) × (Nat → Int32)) => match u with | (V, W, U, Qn, Cn) => r = (some (.int V)) ∧ ((V, W, U) = judgeR w uk c d g)) (fun (u : Int32 × (Nat → Int32) × Nat × (Nat → Int32) × (Nat → Int32)) => match u with | (V, W, U, Qn, Cn) => ([(a0, .inr (8, [.ref a1, .int (nI U), .int kp, .int sd, .ref a2, .ref a3, .int (nI sz), .int fa, .ref a4, .ref a5, .ref a6, .int (nI wr), .ref a7, .ref a8, .int (nI pa), .int (nI fl), .ref a9, .int (nI ln), .ref a10])), (a1, .inl (D.1 100, 3318, .inl W)), (a7, .inl (D.1 100, 16, .inl Qn)), (a8, .inl (D.1 100, 2, .inl Cn))] : va_W))) [(a0, .inr (8, [.ref a1, .int (nI uk), .int kp, .int sd, .ref a2, .ref a3, .int (nI sz), .int fa, .ref a4, .ref a5, .ref a6, .int (nI wr), .ref a7, .ref a8, .int (nI pa), .int (nI fl), .ref a9, .int (nI ln), .ref a10])), (a1, .inl (D.1 100, 3318, .inl w)), (a7, .inl (D.1 100, 16, .inl q)), (a8, .inl (D.1 100, 2, .inl cl))] 0 0 0 [some (.ref a0), some (.int c), some (.int d), some (.int g)] []
  generalize hQ : QM X 0 0 (fun (r : Option Value) (u : Int32 × (Nat → Int32) × Nat × (Nat → Int32) × (Nat → Int32)) => match u with | (V, W, U, Qn, Cn) => r = (some (.int V)) ∧ ((V, W, U) = judgeR w uk c d g)) (fun (u : Int32 × (Nat → Int32) × Nat × (Nat → Int32) × (Nat → Int32)) => match u with | (V, W, U, Qn, Cn) => ([(a0, .inr (8, [.ref a1, .int (nI U), .int kp, .int sd, .ref a2, .ref a3, .int (nI sz), .int fa, .ref a4, .ref a5, .ref a6, .int (nI wr), .ref a7, .ref a8, .int (nI pa), .int (nI fl), .ref a9, .int (nI ln), .ref a10])), (a1, .inl (D.1 100, 3318, .inl W)), (a7, .inl (D.1 100, 16, .inl Qn)), (a8, .inl (D.1 100, 2, .inl Cn))] : va_W)) = Q
  refine g_aload_n hX dX7_judge_0 rfl ?_
  refine g_iload_n hX dX7_judge_1 rfl ?_
  refine g_callRi hX dX7_judge_2 cw_X7_69 (ct_X7_isKnown  (by first | with_reducible assumption | rfl)) 0 8 [0, 1] rfl rfl rfl rfl (by decide) rfl ⟨by decide, by decide⟩ (Nat.le_of_ble_eq_true rfl) (Nat.le_refl _) (Nat.le_refl _) ?_
  refine g_ifb_eq (tgt := 16) hX dX7_judge_5 (by decide) (fun h5 => ?_) (fun h5 => ?_)
  · skip
    refine g_ldc hX dX7_judge_16 kc_X7_239 ?_
    subst hQ
    exact g_zretU hX dX7_judge_18 (vp_nar_int _) ((-1000000001), w, uk, q, cl) (⟨rfl, (judgeR_no (by rw [h5]; rfl)).symm⟩) rfl (Nat.le_refl _) (Nat.le_refl _)
  · skip
    refine g_aload_n hX dX7_judge_8 rfl ?_
    refine g_iload_n hX dX7_judge_9 rfl ?_
    refine g_callRi hX dX7_judge_10 cw_X7_69 (ct_X7_isKnown  (by first | with_reducible assumption | rfl)) 0 8 [0, 1] rfl rfl rfl rfl (by decide) rfl ⟨by decide, by decide⟩ (Nat.le_of_ble_eq_true rfl) (Nat.le_refl _) (Nat.le_refl _) ?_
    refine g_ifb_ne (tgt := 19) hX dX7_judge_13 (by decide) (fun h13 => ?_) (fun h13 => ?_)
    · skip
      obtain ⟨c1, hc1, ec1, kc1⟩ := isKn_in h5
      subst ec1
      obtain ⟨d1, hd1, ed1, kd1⟩ := isKn_in h13
      subst ed1
      refine g_iload_n hX dX7_judge_19 rfl ?_
      refine g_i2l hX dX7_judge_20 ?_
      refine g_ldc2 hX dX7_judge_21 kc_X7_276 ?_
      refine g_ldc2 hX dX7_judge_24 kc_X7_278 ?_
      refine g_callSRi hX dX7_judge_27 cw_X7_53 ct_X7_in [] rfl rfl (by decide) rfl ⟨by decide, by decide⟩ (Nat.le_of_ble_eq_true rfl) (Nat.le_refl _) (Nat.le_refl _) ?_
      refine g_ifb_ne (tgt := 36) hX dX7_judge_30 (by decide) (fun h30 => ?_) (fun h30 => ?_)
      · skip
        refine g_aload_n hX dX7_judge_36 rfl ?_
        refine g_callFv (ws' := [(a0, .inr (8, [.ref a1, .int (nI (if 16 ≤ uk then 16 else uk + 1)), .int kp, .int sd, .ref a2, .ref a3, .int (nI sz), .int fa, .ref a4, .ref a5, .ref a6, .int (nI wr), .ref a7, .ref a8, .int (nI pa), .int (nI fl), .ref a9, .int (nI ln), .ref a10])), (a1, .inl (D.1 100, 3318, .inl (memTo w 0))), (a7, .inl (D.1 100, 16, .inl q)), (a8, .inl (D.1 100, 2, .inl cl))]) hX dX7_judge_37 cw_X7_215 (ct_X7_remember  (by omega)) 0 8 [0, 1] rfl rfl rfl rfl (by decide) rfl rfl ⟨by decide, by decide⟩ (Nat.le_of_ble_eq_true rfl) (Nat.le_refl _) (Nat.le_refl _) rfl ?_
        refine g_aload_n hX dX7_judge_40 rfl ?_
        refine g_getf hX dX7_judge_41 fk_X7_7 0 rfl rfl ?_
        refine g_bipush hX dX7_judge_44 kn_b_94 ?_
        refine g_bipush hX dX7_judge_46 kn_b_8 ?_
        refine g_iload_n hX dX7_judge_48 rfl ?_
        refine g_imulN hX dX7_judge_49 ?_
        refine g_iaddN hX dX7_judge_50 ?_
        refine g_iload_n hX dX7_judge_51 rfl ?_
        refine g_iaddN hX dX7_judge_52 ?_
        refine g_iload_n hX dX7_judge_53 rfl ?_
        refine g_bipush hX dX7_judge_54 kn_b_100 ?_
        refine g_iadd hX dX7_judge_56 ?_
        refine g_iast (ws' := [(a0, .inr (8, [.ref a1, .int (nI (if 16 ≤ uk then 16 else uk + 1)), .int kp, .int sd, .ref a2, .ref a3, .int (nI sz), .int fa, .ref a4, .ref a5, .ref a6, .int (nI wr), .ref a7, .ref a8, .int (nI pa), .int (nI fl), .ref a9, .int (nI ln), .ref a10])), (a1, .inl (D.1 100, 3318, .inl (upd (memTo w 0) ((94 + (8 * c1)) + d1) (g + (nI 100))))), (a7, .inl (D.1 100, 16, .inl q)), (a8, .inl (D.1 100, 2, .inl cl))]) hX dX7_judge_57 1 rfl (by decide) (by omega) rfl ?_
        refine g_aload_n hX dX7_judge_58 rfl ?_
        refine g_callFv (ws' := [(a0, .inr (8, [.ref a1, .int (nI (if 16 ≤ uk then 16 else uk + 1)), .int kp, .int sd, .ref a2, .ref a3, .int (nI sz), .int fa, .ref a4, .ref a5, .ref a6, .int (nI wr), .ref a7, .ref a8, .int (nI pa), .int (nI fl), .ref a9, .int (nI ln), .ref a10])), (a1, .inl (D.1 100, 3318, .inl (upd (memTo w 0) ((94 + (8 * c1)) + d1) (g + (nI 100))))), (a7, .inl (D.1 100, 16, .inl (layQ (upd (memTo w 0) ((94 + (8 * c1)) + d1) (g + (nI 100))) q))), (a8, .inl (D.1 100, 2, .inl (layC (upd (memTo w 0) ((94 + (8 * c1)) + d1) (g + (nI 100))) cl)))]) hX dX7_judge_59 cw_X7_233 (ct_X7_layClasses  (by first | with_reducible assumption | rfl) (by first | with_reducible assumption | rfl) (by first | with_reducible assumption | rfl)) 0 8 [0, 1, 2, 3] rfl rfl rfl rfl (by decide) rfl rfl ⟨by decide, by decide⟩ (Nat.le_of_ble_eq_true rfl) (Nat.le_refl _) (Nat.le_refl _) rfl ?_
        refine g_aload_n hX dX7_judge_62 rfl ?_
        refine g_iload_n hX dX7_judge_63 rfl ?_
        refine g_iload_n hX dX7_judge_64 rfl ?_
        refine g_callRi hX dX7_judge_65 cw_X7_129 (ct_X7_gapOf  (by first | with_reducible assumption | rfl) (by first | with_reducible assumption | rfl) (by omega) (by omega) (below_ne_self hc1 hd1 (by show kn (judW w c1 d1 g 0) c1 = true; rw [judW_0]; exact kc1) (by show kn (judW w c1 d1 g 0) d1 = true; rw [judW_0]; exact kd1))) 0 8 [0, 1, 2] rfl rfl rfl rfl (by decide) rfl ⟨by decide, by decide⟩ (Nat.le_of_ble_eq_true rfl) (Nat.le_refl _) (Nat.le_refl _) ?_
        subst hQ
        exact g_zretU hX dX7_judge_68 (vp_nar_int _) (gapOf (upd (memTo w 0) ((94 + (8 * c1)) + d1) (g + (nI 100))) (layQ (upd (memTo w 0) ((94 + (8 * c1)) + d1) (g + (nI 100))) q) c1 d1, (upd (memTo w 0) ((94 + (8 * c1)) + d1) (g + (nI 100))), if 16 ≤ uk then 16 else uk + 1, layQ (upd (memTo w 0) ((94 + (8 * c1)) + d1) (g + (nI 100))) q, layC (upd (memTo w 0) ((94 + (8 * c1)) + d1) (g + (nI 100))) cl) (⟨rfl, by rw [judgeR_ok hc1 hd1 kc1 kd1 h30, gapOf_q (cq_q _ q) hc1 hd1]; rfl⟩) rfl (Nat.le_refl _) (Nat.le_refl _)
      · skip
        refine g_ldc hX dX7_judge_33 kc_X7_210 ?_
        subst hQ
        exact g_zretU hX dX7_judge_35 (vp_nar_int _) ((-1000000002), w, uk, q, cl) (⟨rfl, (judgeR_bad hc1 hd1 kc1 kd1 h30).symm⟩) rfl (Nat.le_refl _) (Nat.le_refl _)
    · skip
      refine g_ldc hX dX7_judge_16 kc_X7_239 ?_
      subst hQ
      exact g_zretU hX dX7_judge_18 (vp_nar_int _) ((-1000000001), w, uk, q, cl) (⟨rfl, (judgeR_no (by rw [h5, h13]; rfl)).symm⟩) rfl (Nat.le_refl _) (Nat.le_refl _)
set_option maxRecDepth 100000 in
set_option maxHeartbeats 4000000 in
theorem ct_X7_withdraw {l : Launch} {D : va_G} {a0 a1 a2 a3 a4 a5 a6 a7 a8 a9 a10 uk sz wr pa fl ln : Nat} {kp sd fa : Int32} {w : Nat → Int32} {c d : Int32} (hu : uk ≤ 16) : Ct (S := Int32 × (Nat → Int32) × Nat) l D yX7_withdraw cX7_withdraw 4 (some .int) 2 46 0 0 [.ref a0, .int c, .int d] [(a0, .inr (8, [.ref a1, .int (nI uk), .int kp, .int sd, .ref a2, .ref a3, .int (nI sz), .int fa, .ref a4, .ref a5, .ref a6, .int (nI wr), .ref a7, .ref a8, .int (nI pa), .int (nI fl), .ref a9, .int (nI ln), .ref a10])), (a1, .inl (D.1 100, 3318, .inl w))] (fun (r : Option Value) (u : Int32 × (Nat → Int32) × Nat) => match u with | (V, W, U) => r = (some (.int V)) ∧ ((V, W, U) = withdrawR w uk c d)) (fun (u : Int32 × (Nat → Int32) × Nat) => match u with | (V, W, U) => ([(a0, .inr (8, [.ref a1, .int (nI U), .int kp, .int sd, .ref a2, .ref a3, .int (nI sz), .int fa, .ref a4, .ref a5, .ref a6, .int (nI wr), .ref a7, .ref a8, .int (nI pa), .int (nI fl), .ref a9, .int (nI ln), .ref a10])), (a1, .inl (D.1 100, 3318, .inl W))] : va_W)) := by
  refine Ct.ofG (by decide) (Nat.le_of_ble_eq_true rfl) ?_
  intro X hX
  have hX : CX X l D RX7 "withdraw" cX7_withdraw 4 (some .int) 2 46 0 0 := hX
  show G X (QM X 0 0 (fun (r : Option Value) (u : Int32 × (Nat → Int32) × Nat) => match u with | (V, W, U) => r = (some (.int V)) ∧ ((V, W, U) = withdrawR w uk c d)) (fun (u : Int32 × (Nat → Int32) × Nat) => match u with | (V, W, U) => ([(a0, .inr (8, [.ref a1, .int (nI U), .int kp, .int sd, .ref a2, .ref a3, .int (nI sz), .int fa, .ref a4, .ref a5, .ref a6, .int (nI wr), .ref a7, .ref a8, .int (nI pa), .int (nI fl), .ref a9, .int (nI ln), .ref a10])), (a1, .inl (D.1 100, 3318, .inl W))] : va_W))) [(a0, .inr (8, [.ref a1, .int (nI uk), .int kp, .int sd, .ref a2, .ref a3, .int (nI sz), .int fa, .ref a4, .ref a5, .ref a6, .int (nI wr), .ref a7, .ref a8, .int (nI pa), .int (nI fl), .ref a9, .int (nI ln), .ref a10])), (a1, .inl (D.1 100, 3318, .inl w))] 0 0 0 [some (.ref a0), some (.int c), some (.int d), none] []
  generalize hQ : QM X 0 0 (fun (r : Option Value) (u : Int32 × (Nat → Int32) × Nat) => match u with | (V, W, U) => r = (some (.int V)) ∧ ((V, W, U) = withdrawR w uk c d)) (fun (u : Int32 × (Nat → Int32) × Nat) => match u with | (V, W, U) => ([(a0, .inr (8, [.ref a1, .int (nI U), .int kp, .int sd, .ref a2, .ref a3, .int (nI sz), .int fa, .ref a4, .ref a5, .ref a6, .int (nI wr), .ref a7, .ref a8, .int (nI pa), .int (nI fl), .ref a9, .int (nI ln), .ref a10])), (a1, .inl (D.1 100, 3318, .inl W))] : va_W)) = Q
  refine g_aload_n hX dX7_withdraw_0 rfl ?_
  refine g_iload_n hX dX7_withdraw_1 rfl ?_
  refine g_callRi hX dX7_withdraw_2 cw_X7_69 (ct_X7_isKnown  (by first | with_reducible assumption | rfl)) 0 8 [0, 1] rfl rfl rfl rfl (by decide) rfl ⟨by decide, by decide⟩ (Nat.le_of_ble_eq_true rfl) (Nat.le_refl _) (Nat.le_refl _) ?_
  refine g_ifb_eq (tgt := 16) hX dX7_withdraw_5 (by decide) (fun h5 => ?_) (fun h5 => ?_)
  · skip
    refine g_ldc hX dX7_withdraw_16 kc_X7_239 ?_
    subst hQ
    exact g_zretU hX dX7_withdraw_18 (vp_nar_int _) ((-1000000001), w, uk) (⟨rfl, (withdrawR_no (by rw [h5]; rfl)).symm⟩) rfl (Nat.le_refl _) (Nat.le_refl _)
  · skip
    refine g_aload_n hX dX7_withdraw_8 rfl ?_
    refine g_iload_n hX dX7_withdraw_9 rfl ?_
    refine g_callRi hX dX7_withdraw_10 cw_X7_69 (ct_X7_isKnown  (by first | with_reducible assumption | rfl)) 0 8 [0, 1] rfl rfl rfl rfl (by decide) rfl ⟨by decide, by decide⟩ (Nat.le_of_ble_eq_true rfl) (Nat.le_refl _) (Nat.le_refl _) ?_
    refine g_ifb_ne (tgt := 19) hX dX7_withdraw_13 (by decide) (fun h13 => ?_) (fun h13 => ?_)
    · skip
      obtain ⟨c1, hc1, ec1, kc1⟩ := isKn_in h5
      subst ec1
      obtain ⟨d1, hd1, ed1, kd1⟩ := isKn_in h13
      subst ed1
      refine g_aload_n hX dX7_withdraw_19 rfl ?_
      refine g_iload_n hX dX7_withdraw_20 rfl ?_
      refine g_iload_n hX dX7_withdraw_21 rfl ?_
      refine g_callRi hX dX7_withdraw_22 cw_X7_105 (ct_X7_judgedOf  (by first | with_reducible assumption | rfl) (by omega) (by omega)) 0 8 [0, 1] rfl rfl rfl rfl (by decide) rfl ⟨by decide, by decide⟩ (Nat.le_of_ble_eq_true rfl) (Nat.le_refl _) (Nat.le_refl _) ?_
      refine g_istore_n (L' := [some (.ref a0), some (.int (nI c1)), some (.int (nI d1)), some (.int (w (94 + 8 * c1 + d1)))]) hX dX7_withdraw_25 (by decide) rfl ?_
      refine g_iload_n hX dX7_withdraw_26 rfl ?_
      refine g_if_ne (tgt := 34) hX dX7_withdraw_27 (by decide) (fun h27 => ?_) (fun h27 => ?_)
      · skip
        refine g_aload_n hX dX7_withdraw_34 rfl ?_
        refine g_callFv (ws' := [(a0, .inr (8, [.ref a1, .int (nI (if 16 ≤ uk then 16 else uk + 1)), .int kp, .int sd, .ref a2, .ref a3, .int (nI sz), .int fa, .ref a4, .ref a5, .ref a6, .int (nI wr), .ref a7, .ref a8, .int (nI pa), .int (nI fl), .ref a9, .int (nI ln), .ref a10])), (a1, .inl (D.1 100, 3318, .inl (memTo w 0)))]) hX dX7_withdraw_35 cw_X7_215 (ct_X7_remember  (by omega)) 0 8 [0, 1] rfl rfl rfl rfl (by decide) rfl rfl ⟨by decide, by decide⟩ (Nat.le_of_ble_eq_true rfl) (Nat.le_refl _) (Nat.le_refl _) rfl ?_
        refine g_aload_n hX dX7_withdraw_38 rfl ?_
        refine g_getf hX dX7_withdraw_39 fk_X7_7 0 rfl rfl ?_
        refine g_bipush hX dX7_withdraw_42 kn_b_94 ?_
        refine g_bipush hX dX7_withdraw_44 kn_b_8 ?_
        refine g_iload_n hX dX7_withdraw_46 rfl ?_
        refine g_imulN hX dX7_withdraw_47 ?_
        refine g_iaddN hX dX7_withdraw_48 ?_
        refine g_iload_n hX dX7_withdraw_49 rfl ?_
        refine g_iaddN hX dX7_withdraw_50 ?_
        refine g_iconst hX dX7_withdraw_51 kn_i_0 ?_
        refine g_iast (ws' := [(a0, .inr (8, [.ref a1, .int (nI (if 16 ≤ uk then 16 else uk + 1)), .int kp, .int sd, .ref a2, .ref a3, .int (nI sz), .int fa, .ref a4, .ref a5, .ref a6, .int (nI wr), .ref a7, .ref a8, .int (nI pa), .int (nI fl), .ref a9, .int (nI ln), .ref a10])), (a1, .inl (D.1 100, 3318, .inl (upd (memTo w 0) ((94 + (8 * c1)) + d1) (nI 0))))]) hX dX7_withdraw_52 1 rfl (by decide) (by omega) rfl ?_
        refine g_iload_n hX dX7_withdraw_53 rfl ?_
        subst hQ
        exact g_zretU hX dX7_withdraw_54 (vp_nar_int _) (w (94 + 8 * c1 + d1), upd (memTo w 0) ((94 + (8 * c1)) + d1) (nI 0), if 16 ≤ uk then 16 else uk + 1) (⟨rfl, (withdrawR_ok hc1 hd1 kc1 kd1 h27).symm⟩) rfl (Nat.le_refl _) (Nat.le_refl _)
      · skip
        refine g_ldcw hX dX7_withdraw_30 kc_X7_280 ?_
        subst hQ
        exact g_zretU hX dX7_withdraw_33 (vp_nar_int _) ((-1000000003), w, uk) (⟨rfl, (withdrawR_0 hc1 hd1 kc1 kd1 h27).symm⟩) rfl (Nat.le_refl _) (Nat.le_refl _)
    · skip
      refine g_ldc hX dX7_withdraw_16 kc_X7_239 ?_
      subst hQ
      exact g_zretU hX dX7_withdraw_18 (vp_nar_int _) ((-1000000001), w, uk) (⟨rfl, (withdrawR_no (by rw [h5, h13]; rfl)).symm⟩) rfl (Nat.le_refl _) (Nat.le_refl _)
