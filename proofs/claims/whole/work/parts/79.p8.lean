set_option maxRecDepth 100000 in
set_option maxHeartbeats 4000000 in
theorem ct_X7_mostOf {l : Launch} {D : va_G} {k : Nat} (hk : k ≤ 4) : Cf l D yX7_mostOf cX7_mostOf 1 (some .int) 0 0 [.int (nI k)] [] (some (.int (nI (mostN k)))) [] := by
  refine Ct.ofG (by decide) (Nat.le_of_ble_eq_true rfl) ?_
  intro X hX
  have hX : CX X l D RX7 "mostOf" cX7_mostOf 1 (some .int) 0 0 0 0 := hX
  show G X (QF X (some (.int (nI (mostN k)))) []) [] 0 0 0 [some (.int (nI k))] []
  generalize hQ : QF X (some (.int (nI (mostN k)))) [] = Q
  refine g_iload_n hX dX7_mostOf_0 rfl ?_
  refine g_iconst hX dX7_mostOf_1 kn_i_1 ?_
  refine g_icmpN_eq (tgt := 10) hX dX7_mostOf_2 (by decide) (by omega) (by omega) (fun h2 => ?_) (fun h2 => ?_)
  · skip
    refine g_bipush hX dX7_mostOf_10 kn_b_20 ?_
    refine g_goto (tgt := 26) hX dX7_mostOf_12 (by decide) ?_
    subst hQ
    exact g_iret hX dX7_mostOf_26 (iR (congrArg nI (by unfold mostN; first | rw [if_pos (by omega)] | rw [if_neg (by omega), if_pos (by omega)] | rw [if_neg (by omega), if_neg (by omega)]))) (rfl) rfl rfl
  · skip
    refine g_iload_n hX dX7_mostOf_5 rfl ?_
    refine g_iconst hX dX7_mostOf_6 kn_i_2 ?_
    refine g_icmpN_ne (tgt := 15) hX dX7_mostOf_7 (by decide) (by omega) (by omega) (fun h7 => ?_) (fun h7 => ?_)
    · skip
      refine g_iload_n hX dX7_mostOf_15 rfl ?_
      refine g_iconst hX dX7_mostOf_16 kn_i_4 ?_
      refine g_icmpN_ne (tgt := 24) hX dX7_mostOf_17 (by decide) (by omega) (by omega) (fun h17 => ?_) (fun h17 => ?_)
      · skip
        refine g_bipush hX dX7_mostOf_24 kn_b_99 ?_
        subst hQ
        exact g_iret hX dX7_mostOf_26 (iR (congrArg nI (by unfold mostN; first | rw [if_pos (by omega)] | rw [if_neg (by omega), if_pos (by omega)] | rw [if_neg (by omega), if_neg (by omega)]))) (rfl) rfl rfl
      · skip
        refine g_iconst hX dX7_mostOf_20 kn_i_2 ?_
        refine g_goto (tgt := 26) hX dX7_mostOf_21 (by decide) ?_
        subst hQ
        exact g_iret hX dX7_mostOf_26 (iR (congrArg nI (by unfold mostN; first | rw [if_pos (by omega)] | rw [if_neg (by omega), if_pos (by omega)] | rw [if_neg (by omega), if_neg (by omega)]))) (rfl) rfl rfl
    · skip
      refine g_bipush hX dX7_mostOf_10 kn_b_20 ?_
      refine g_goto (tgt := 26) hX dX7_mostOf_12 (by decide) ?_
      subst hQ
      exact g_iret hX dX7_mostOf_26 (iR (congrArg nI (by unfold mostN; first | rw [if_pos (by omega)] | rw [if_neg (by omega), if_pos (by omega)] | rw [if_neg (by omega), if_neg (by omega)]))) (rfl) rfl rfl
set_option maxRecDepth 100000 in
set_option maxHeartbeats 4000000 in
theorem ct_X7_term {l : Launch} {D : va_G} {a0 a1 a2 a3 a4 a5 a6 a7 a8 a9 a10 uk sz wr pa fl ln : Nat} {kp sd fa : Int32} {w : Nat → Int32} {k v : Int32} (hu : uk ≤ 16) : Ct (S := Int32 × (Nat → Int32) × Nat) l D yX7_term cX7_term 4 (some .int) 2 44 0 0 [.ref a0, .int k, .int v] [(a0, .inr (8, [.ref a1, .int (nI uk), .int kp, .int sd, .ref a2, .ref a3, .int (nI sz), .int fa, .ref a4, .ref a5, .ref a6, .int (nI wr), .ref a7, .ref a8, .int (nI pa), .int (nI fl), .ref a9, .int (nI ln), .ref a10])), (a1, .inl (D.1 100, 3318, .inl w))] (fun (r : Option Value) (u : Int32 × (Nat → Int32) × Nat) => match u with | (V, W, U) => r = (some (.int V)) ∧ ((V, W, U) = termR w uk k v)) (fun (u : Int32 × (Nat → Int32) × Nat) => match u with | (V, W, U) => ([(a0, .inr (8, [.ref a1, .int (nI U), .int kp, .int sd, .ref a2, .ref a3, .int (nI sz), .int fa, .ref a4, .ref a5, .ref a6, .int (nI wr), .ref a7, .ref a8, .int (nI pa), .int (nI fl), .ref a9, .int (nI ln), .ref a10])), (a1, .inl (D.1 100, 3318, .inl W))] : va_W)) := by
  refine Ct.ofG (by decide) (Nat.le_of_ble_eq_true rfl) ?_
  intro X hX
  have hX : CX X l D RX7 "term" cX7_term 4 (some .int) 2 44 0 0 := hX
  show G X (QM X 0 0 (fun (r : Option Value) (u : Int32 × (Nat → Int32) × Nat) => match u with | (V, W, U) => r = (some (.int V)) ∧ ((V, W, U) = termR w uk k v)) (fun (u : Int32 × (Nat → Int32) × Nat) => match u with | (V, W, U) => ([(a0, .inr (8, [.ref a1, .int (nI U), .int kp, .int sd, .ref a2, .ref a3, .int (nI sz), .int fa, .ref a4, .ref a5, .ref a6, .int (nI wr), .ref a7, .ref a8, .int (nI pa), .int (nI fl), .ref a9, .int (nI ln), .ref a10])), (a1, .inl (D.1 100, 3318, .inl W))] : va_W))) [(a0, .inr (8, [.ref a1, .int (nI uk), .int kp, .int sd, .ref a2, .ref a3, .int (nI sz), .int fa, .ref a4, .ref a5, .ref a6, .int (nI wr), .ref a7, .ref a8, .int (nI pa), .int (nI fl), .ref a9, .int (nI ln), .ref a10])), (a1, .inl (D.1 100, 3318, .inl w))] 0 0 0 [some (.ref a0), some (.int k), some (.int v), none] []
  generalize hQ : QM X 0 0 (fun (r : Option Value) (u : Int32 × (Nat → Int32) × Nat) => match u with | (V, W, U) => r = (some (.int V)) ∧ ((V, W, U) = termR w uk k v)) (fun (u : Int32 × (Nat → Int32) × Nat) => match u with | (V, W, U) => ([(a0, .inr (8, [.ref a1, .int (nI U), .int kp, .int sd, .ref a2, .ref a3, .int (nI sz), .int fa, .ref a4, .ref a5, .ref a6, .int (nI wr), .ref a7, .ref a8, .int (nI pa), .int (nI fl), .ref a9, .int (nI ln), .ref a10])), (a1, .inl (D.1 100, 3318, .inl W))] : va_W)) = Q
  refine g_iload_n hX dX7_term_0 rfl ?_
  refine g_i2l hX dX7_term_1 ?_
  refine g_lconst (v := 0) hX dX7_term_2 rfl ?_
  refine g_ldc2 hX dX7_term_3 kc_X7_261 ?_
  refine g_callSRi hX dX7_term_6 cw_X7_53 ct_X7_in [] rfl rfl (by decide) rfl ⟨by decide, by decide⟩ (Nat.le_of_ble_eq_true rfl) (Nat.le_refl _) (Nat.le_refl _) ?_
  refine g_ifb_eq (tgt := 35) hX dX7_term_9 (by decide) (fun h9 => ?_) (fun h9 => ?_)
  · skip
    refine g_ldc hX dX7_term_35 kc_X7_210 ?_
    subst hQ
    exact g_zretU hX dX7_term_37 (vp_nar_int _) ((-1000000002), w, uk) (⟨rfl, (termR_no (by unfold termB; rw [h9]; rfl)).symm⟩) rfl (Nat.le_refl _) (Nat.le_refl _)
  · skip
    obtain ⟨k1, hk1, ek1⟩ := inT (n := 4) (by decide) h9
    subst ek1
    refine g_iload_n hX dX7_term_12 rfl ?_
    refine g_i2l hX dX7_term_13 ?_
    refine g_iload_n hX dX7_term_14 rfl ?_
    refine g_iconst hX dX7_term_15 kn_i_2 ?_
    have J16 : ∀ (v16_0 : Int64), (v16_0 = (if k1 = 2 then 1 else 0)) → G X Q [(a0, .inr (8, [.ref a1, .int (nI uk), .int kp, .int sd, .ref a2, .ref a3, .int (nI sz), .int fa, .ref a4, .ref a5, .ref a6, .int (nI wr), .ref a7, .ref a8, .int (nI pa), .int (nI fl), .ref a9, .int (nI ln), .ref a10])), (a1, .inl (D.1 100, 3318, .inl w))] 0 0 24 [some (.ref a0), some (.int (nI k1)), some (.int v), none] [.long v16_0, .long v.toInt64] := by
      intro v16_0 ev16_0
      subst ev16_0
      refine g_iload_n hX dX7_term_24 rfl ?_
      refine g_callSRi hX dX7_term_25 cw_X7_281 (ct_X7_mostOf  (by omega)) [] rfl rfl (by decide) rfl ⟨by decide, by decide⟩ (Nat.le_of_ble_eq_true rfl) (Nat.le_refl _) (Nat.le_refl _) ?_
      refine g_i2l hX dX7_term_28 ?_
      refine g_callSRi hX dX7_term_29 cw_X7_53 ct_X7_in [] rfl rfl (by decide) rfl ⟨by decide, by decide⟩ (Nat.le_of_ble_eq_true rfl) (Nat.le_refl _) (Nat.le_refl _) ?_
      refine g_ifb_ne (tgt := 38) hX dX7_term_32 (by decide) (fun h32 => ?_) (fun h32 => ?_)
      · skip
        refine g_aload_n hX dX7_term_38 rfl ?_
        refine g_callFv (ws' := [(a0, .inr (8, [.ref a1, .int (nI (if 16 ≤ uk then 16 else uk + 1)), .int kp, .int sd, .ref a2, .ref a3, .int (nI sz), .int fa, .ref a4, .ref a5, .ref a6, .int (nI wr), .ref a7, .ref a8, .int (nI pa), .int (nI fl), .ref a9, .int (nI ln), .ref a10])), (a1, .inl (D.1 100, 3318, .inl (memTo w 0)))]) hX dX7_term_39 cw_X7_215 (ct_X7_remember  (by omega)) 0 8 [0, 1] rfl rfl rfl rfl (by decide) rfl rfl ⟨by decide, by decide⟩ (Nat.le_of_ble_eq_true rfl) (Nat.le_refl _) (Nat.le_refl _) rfl ?_
        refine g_aload_n hX dX7_term_42 rfl ?_
        refine g_iload_n hX dX7_term_43 rfl ?_
        refine g_callRi hX dX7_term_44 cw_X7_65 (ct_X7_termOf  (by first | with_reducible assumption | rfl) (by omega)) 0 8 [0, 1] rfl rfl rfl rfl (by decide) rfl ⟨by decide, by decide⟩ (Nat.le_of_ble_eq_true rfl) (Nat.le_refl _) (Nat.le_refl _) ?_
        refine g_istore_n (L' := [some (.ref a0), some (.int (nI k1)), some (.int v), some (.int ((memTo w 0) (1 + k1)))]) hX dX7_term_47 (by decide) rfl ?_
        refine g_aload_n hX dX7_term_48 rfl ?_
        refine g_getf hX dX7_term_49 fk_X7_7 0 rfl rfl ?_
        refine g_iconst hX dX7_term_52 kn_i_1 ?_
        refine g_iload_n hX dX7_term_53 rfl ?_
        refine g_iaddN hX dX7_term_54 ?_
        refine g_iload_n hX dX7_term_55 rfl ?_
        refine g_iast (ws' := [(a0, .inr (8, [.ref a1, .int (nI (if 16 ≤ uk then 16 else uk + 1)), .int kp, .int sd, .ref a2, .ref a3, .int (nI sz), .int fa, .ref a4, .ref a5, .ref a6, .int (nI wr), .ref a7, .ref a8, .int (nI pa), .int (nI fl), .ref a9, .int (nI ln), .ref a10])), (a1, .inl (D.1 100, 3318, .inl (upd (memTo w 0) (1 + k1) v)))]) hX dX7_term_56 1 rfl (by decide) (by omega) rfl ?_
        refine g_iload_n hX dX7_term_57 rfl ?_
        subst hQ
        exact g_zretU hX dX7_term_58 (vp_nar_int _) ((memTo w 0) (1 + k1), upd (memTo w 0) (1 + k1) v, if 16 ≤ uk then 16 else uk + 1) (⟨rfl, by rw [termR_ok hk1 (by rw [termB_n hk1]; exact h32), memTo_lo w (by omega)]; rfl⟩) rfl (Nat.le_refl _) (Nat.le_refl _)
      · skip
        refine g_ldc hX dX7_term_35 kc_X7_210 ?_
        subst hQ
        exact g_zretU hX dX7_term_37 (vp_nar_int _) ((-1000000002), w, uk) (⟨rfl, (termR_no (by rw [termB_n hk1]; exact h32)).symm⟩) rfl (Nat.le_refl _) (Nat.le_refl _)
    refine g_icmpN_ne (tgt := 23) hX dX7_term_16 (by decide) (by omega) (by omega) (fun h16 => ?_) (fun h16 => ?_)
    · skip
      refine g_lconst (v := 0) hX dX7_term_23 rfl ?_
      exact g_to (J16 0 (if_neg h16).symm) ⟨rfl, rfl, rfl, trivial⟩
    · skip
      refine g_lconst (v := 1) hX dX7_term_19 rfl ?_
      refine g_goto (tgt := 24) hX dX7_term_20 (by decide) ?_
      exact g_to (J16 1 (if_pos h16).symm) ⟨rfl, rfl, rfl, trivial⟩
set_option maxRecDepth 100000 in
set_option maxHeartbeats 4000000 in
theorem ct_X7_undo {l : Launch} {D : va_G} {a0 a1 a2 a3 a4 a5 a6 a7 a8 a9 a10 uk sz wr pa fl ln : Nat} {kp sd fa : Int32} {w : Nat → Int32} {n : Int32} (hu : uk ≤ 16) : Ct (S := Int32 × (Nat → Int32) × Nat) l D yX7_undo cX7_undo 3 (some .int) 1 25 0 0 [.ref a0, .int n] [(a0, .inr (8, [.ref a1, .int (nI uk), .int kp, .int sd, .ref a2, .ref a3, .int (nI sz), .int fa, .ref a4, .ref a5, .ref a6, .int (nI wr), .ref a7, .ref a8, .int (nI pa), .int (nI fl), .ref a9, .int (nI ln), .ref a10])), (a1, .inl (D.1 100, 3318, .inl w))] (fun (r : Option Value) (u : Int32 × (Nat → Int32) × Nat) => match u with | (V, W, U) => r = (some (.int V)) ∧ ((V, W, U) = undoR w uk n)) (fun (u : Int32 × (Nat → Int32) × Nat) => match u with | (V, W, U) => ([(a0, .inr (8, [.ref a1, .int (nI U), .int kp, .int sd, .ref a2, .ref a3, .int (nI sz), .int fa, .ref a4, .ref a5, .ref a6, .int (nI wr), .ref a7, .ref a8, .int (nI pa), .int (nI fl), .ref a9, .int (nI ln), .ref a10])), (a1, .inl (D.1 100, 3318, .inl W))] : va_W)) := by
  refine Ct.ofG (by decide) (Nat.le_of_ble_eq_true rfl) ?_
  intro X hX
  have hX : CX X l D RX7 "undo" cX7_undo 3 (some .int) 1 25 0 0 := hX
  show G X (QM X 0 0 (fun (r : Option Value) (u : Int32 × (Nat → Int32) × Nat) => match u with | (V, W, U) => r = (some (.int V)) ∧ ((V, W, U) = undoR w uk n)) (fun (u : Int32 × (Nat → Int32) × Nat) => match u with | (V, W, U) => ([(a0, .inr (8, [.ref a1, .int (nI U), .int kp, .int sd, .ref a2, .ref a3, .int (nI sz), .int fa, .ref a4, .ref a5, .ref a6, .int (nI wr), .ref a7, .ref a8, .int (nI pa), .int (nI fl), .ref a9, .int (nI ln), .ref a10])), (a1, .inl (D.1 100, 3318, .inl W))] : va_W))) [(a0, .inr (8, [.ref a1, .int (nI uk), .int kp, .int sd, .ref a2, .ref a3, .int (nI sz), .int fa, .ref a4, .ref a5, .ref a6, .int (nI wr), .ref a7, .ref a8, .int (nI pa), .int (nI fl), .ref a9, .int (nI ln), .ref a10])), (a1, .inl (D.1 100, 3318, .inl w))] 0 0 0 [some (.ref a0), some (.int n), none] []
  generalize hQ : QM X 0 0 (fun (r : Option Value) (u : Int32 × (Nat → Int32) × Nat) => match u with | (V, W, U) => r = (some (.int V)) ∧ ((V, W, U) = undoR w uk n)) (fun (u : Int32 × (Nat → Int32) × Nat) => match u with | (V, W, U) => ([(a0, .inr (8, [.ref a1, .int (nI U), .int kp, .int sd, .ref a2, .ref a3, .int (nI sz), .int fa, .ref a4, .ref a5, .ref a6, .int (nI wr), .ref a7, .ref a8, .int (nI pa), .int (nI fl), .ref a9, .int (nI ln), .ref a10])), (a1, .inl (D.1 100, 3318, .inl W))] : va_W)) = Q
  refine g_iload_n hX dX7_undo_0 rfl ?_
  refine g_i2l hX dX7_undo_1 ?_
  refine g_lconst (v := 1) hX dX7_undo_2 rfl ?_
  refine g_ldc2 hX dX7_undo_3 kc_X7_299 ?_
  refine g_callSRi hX dX7_undo_6 cw_X7_53 ct_X7_in [] rfl rfl (by decide) rfl ⟨by decide, by decide⟩ (Nat.le_of_ble_eq_true rfl) (Nat.le_refl _) (Nat.le_refl _) ?_
  refine g_ifb_ne (tgt := 15) hX dX7_undo_9 (by decide) (fun h9 => ?_) (fun h9 => ?_)
  · skip
    obtain ⟨n1, gn1, hn1, en1⟩ := inT1 (n := 16) (by decide) h9
    subst en1
    refine g_iload_n hX dX7_undo_15 rfl ?_
    refine g_aload_n hX dX7_undo_16 rfl ?_
    refine g_getf hX dX7_undo_17 fk_X7_48 0 rfl rfl ?_
    refine g_icmpN_le (tgt := 27) hX dX7_undo_20 (by decide) (by omega) (by omega) (fun h20 => ?_) (fun h20 => ?_)
    · skip
      refine g_iconst hX dX7_undo_27 kn_i_0 ?_
      refine g_istore_n (L' := [some (.ref a0), some (.int (nI n1)), some (.int (nI 0))]) hX dX7_undo_28 (by decide) rfl ?_
      have loop29 : ∀ i : Nat, i ≤ 17 - n1 → G X Q [(a0, .inr (8, [.ref a1, .int (nI uk), .int kp, .int sd, .ref a2, .ref a3, .int (nI sz), .int fa, .ref a4, .ref a5, .ref a6, .int (nI wr), .ref a7, .ref a8, .int (nI pa), .int (nI fl), .ref a9, .int (nI ln), .ref a10])), (a1, .inl (D.1 100, 3318, .inl (undTo w n1 i)))] 0 0 29 [some (.ref a0), some (.int (nI n1)), some (.int (nI i))] [] := by
        refine loopN (17 - n1) (fun i hh29 ih29 => ?_)
        refine g_iload_n hX dX7_undo_29 rfl ?_
        refine g_iload_n hX dX7_undo_30 rfl ?_
        refine g_iaddN hX dX7_undo_31 ?_
        refine g_bipush hX dX7_undo_32 kn_b_16 ?_
        refine g_icmpN_gt (tgt := 51) hX dX7_undo_34 (by decide) (by omega) (by omega) (fun h34 => ?_) (fun h34 => ?_)
        · skip
          obtain rfl : i = (17 - n1) := by omega
          refine g_aload_n hX dX7_undo_51 rfl ?_
          refine g_dup hX dX7_undo_52 rfl ?_
          refine g_getf hX dX7_undo_53 fk_X7_48 0 rfl rfl ?_
          refine g_iload_n hX dX7_undo_56 rfl ?_
          refine g_isubN hX dX7_undo_57 (by omega) ?_
          refine g_puti (ws' := [(a0, .inr (8, [.ref a1, .int (nI (uk - n1)), .int kp, .int sd, .ref a2, .ref a3, .int (nI sz), .int fa, .ref a4, .ref a5, .ref a6, .int (nI wr), .ref a7, .ref a8, .int (nI pa), .int (nI fl), .ref a9, .int (nI ln), .ref a10])), (a1, .inl (D.1 100, 3318, .inl (undTo w n1 (17 - n1))))]) hX dX7_undo_58 fp_X7_48 0 rfl (Nat.le_of_ble_eq_true rfl) rfl ?_
          refine g_aload_n hX dX7_undo_61 rfl ?_
          refine g_getf hX dX7_undo_62 fk_X7_7 0 rfl rfl ?_
          refine g_iconst hX dX7_undo_65 kn_i_0 ?_
          refine g_iald hX dX7_undo_66 1 rfl (by decide) (by omega) ?_
          subst hQ
          exact g_zretU hX dX7_undo_67 (vp_nar_int _) ((undTo w n1 (17 - n1)) 0, undTo w n1 (17 - n1), uk - n1) (⟨rfl, (undoR_ok gn1 hn1 (by omega)).symm⟩) rfl (Nat.le_refl _) (Nat.le_refl _)
        · skip
          refine g_aload_n hX dX7_undo_37 rfl ?_
          refine g_iload_n hX dX7_undo_38 rfl ?_
          refine g_iload_n hX dX7_undo_39 rfl ?_
          refine g_iaddN hX dX7_undo_40 ?_
          refine g_iload_n hX dX7_undo_41 rfl ?_
          refine g_callFv (ws' := [(a0, .inr (8, [.ref a1, .int (nI uk), .int kp, .int sd, .ref a2, .ref a3, .int (nI sz), .int fa, .ref a4, .ref a5, .ref a6, .int (nI wr), .ref a7, .ref a8, .int (nI pa), .int (nI fl), .ref a9, .int (nI ln), .ref a10])), (a1, .inl (D.1 100, 3318, .inl (cpRow (undTo w n1 i) (i + n1) i)))]) hX dX7_undo_42 cw_X7_44 (ct_X7_copyRow  (by first | with_reducible assumption | rfl) (by omega) (by omega) (by omega)) 0 8 [0, 1] rfl rfl rfl rfl (by decide) rfl rfl ⟨by decide, by decide⟩ (Nat.le_of_ble_eq_true rfl) (Nat.le_refl _) (Nat.le_refl _) rfl ?_
          refine g_iincN (L' := [some (.ref a0), some (.int (nI n1)), some (.int (nI (i + 1)))]) hX dX7_undo_45 rfl (by decide) rfl ?_
          refine g_goto (tgt := 29) hX dX7_undo_48 (by decide) ?_
          exact g_fin (ih29 (by omega) ) (rfl) rfl ⟨rfl, rfl, rfl, trivial⟩
      exact g_fin (loop29 0 (by omega) ) (rfl) rfl ⟨rfl, rfl, rfl, trivial⟩
    · skip
      refine g_ldcw hX dX7_undo_23 kc_X7_280 ?_
      subst hQ
      exact g_zretU hX dX7_undo_26 (vp_nar_int _) ((-1000000003), w, uk) (⟨rfl, (undoR_no gn1 hn1 (by omega)).symm⟩) rfl (Nat.le_refl _) (Nat.le_refl _)
  · skip
    refine g_ldc hX dX7_undo_12 kc_X7_210 ?_
    subst hQ
    exact g_zretU hX dX7_undo_14 (vp_nar_int _) ((-1000000002), w, uk) (⟨rfl, (undoR_bad h9).symm⟩) rfl (Nat.le_refl _) (Nat.le_refl _)
set_option maxRecDepth 100000 in
set_option maxHeartbeats 4000000 in
theorem ct_X7_write {l : Launch} {D : va_G} {a0 a1 a2 a3 a4 a5 a6 a7 a8 a9 a10 uk sz wr pa fl ln : Nat} {kp sd fa : Int32} {w bo bt bs : Nat → Int32} {c d g : Int32} (hwr : wr ≤ 20) : Ct (S := Int32 × (Nat → Int32) × (Nat → Int32) × (Nat → Int32) × Nat) l D yX7_write cX7_write 4 (some .int) 2 46 0 0 [.ref a0, .int c, .int d, .int g] [(a0, .inr (8, [.ref a1, .int (nI uk), .int kp, .int sd, .ref a2, .ref a3, .int (nI sz), .int fa, .ref a4, .ref a5, .ref a6, .int (nI wr), .ref a7, .ref a8, .int (nI pa), .int (nI fl), .ref a9, .int (nI ln), .ref a10])), (a1, .inl (D.1 100, 3318, .inl w)), (a4, .inl (D.1 100, 20, .inl bo)), (a5, .inl (D.1 100, 20, .inl bt)), (a6, .inl (D.1 100, 20, .inl bs))] (fun (r : Option Value) (u : Int32 × (Nat → Int32) × (Nat → Int32) × (Nat → Int32) × Nat) => match u with | (V, Bo, Bt, Bs, Wr) => r = (some (.int V)) ∧ ((V, Bo, Bt, Bs, Wr) = writeR w bo bt bs wr c d g)) (fun (u : Int32 × (Nat → Int32) × (Nat → Int32) × (Nat → Int32) × Nat) => match u with | (V, Bo, Bt, Bs, Wr) => ([(a0, .inr (8, [.ref a1, .int (nI uk), .int kp, .int sd, .ref a2, .ref a3, .int (nI sz), .int fa, .ref a4, .ref a5, .ref a6, .int (nI Wr), .ref a7, .ref a8, .int (nI pa), .int (nI fl), .ref a9, .int (nI ln), .ref a10])), (a1, .inl (D.1 100, 3318, .inl w)), (a4, .inl (D.1 100, 20, .inl Bo)), (a5, .inl (D.1 100, 20, .inl Bt)), (a6, .inl (D.1 100, 20, .inl Bs))] : va_W)) := by
  refine Ct.ofG (by decide) (Nat.le_of_ble_eq_true rfl) ?_
  intro X hX
  have hX : CX X l D RX7 "write" cX7_write 4 (some .int) 2 46 0 0 := hX
  show G X (QM X 0 0 (fun (r : Option Value) (u : Int32 × (Nat → Int32) × (Nat → Int32) × (Nat → Int32) × Nat) => match u with | (V, Bo, Bt, Bs, Wr) => r = (some (.int V)) ∧ ((V, Bo, Bt, Bs, Wr) = writeR w bo bt bs wr c d g)) (fun (u : Int32 × (Nat → Int32) × (Nat → Int32) × (Nat → Int32) × Nat) => match u with | (V, Bo, Bt, Bs, Wr) => ([(a0, .inr (8, [.ref a1, .int (nI uk), .int kp, .int sd, .ref a2, .ref a3, .int (nI sz), .int fa, .ref a4, .ref a5, .ref a6, .int (nI Wr), .ref a7, .ref a8, .int (nI pa), .int (nI fl), .ref a9, .int (nI ln), .ref a10])), (a1, .inl (D.1 100, 3318, .inl w)), (a4, .inl (D.1 100, 20, .inl Bo)), (a5, .inl (D.1 100, 20, .inl Bt)), (a6, .inl (D.1 100, 20, .inl Bs))] : va_W))) [(a0, .inr (8, [.ref a1, .int (nI uk), .int kp, .int sd, .ref a2, .ref a3, .int (nI sz), .int fa, .ref a4, .ref a5, .ref a6, .int (nI wr), .ref a7, .ref a8, .int (nI pa), .int (nI fl), .ref a9, .int (nI ln), .ref a10])), (a1, .inl (D.1 100, 3318, .inl w)), (a4, .inl (D.1 100, 20, .inl bo)), (a5, .inl (D.1 100, 20, .inl bt)), (a6, .inl (D.1 100, 20, .inl bs))] 0 0 0 [some (.ref a0), some (.int c), some (.int d), some (.int g)] []
  generalize hQ : QM X 0 0 (fun (r : Option Value) (u : Int32 × (Nat → Int32) × (Nat → Int32) × (Nat → Int32) × Nat) => match u with | (V, Bo, Bt, Bs, Wr) => r = (some (.int V)) ∧ ((V, Bo, Bt, Bs, Wr) = writeR w bo bt bs wr c d g)) (fun (u : Int32 × (Nat → Int32) × (Nat → Int32) × (Nat → Int32) × Nat) => match u with | (V, Bo, Bt, Bs, Wr) => ([(a0, .inr (8, [.ref a1, .int (nI uk), .int kp, .int sd, .ref a2, .ref a3, .int (nI sz), .int fa, .ref a4, .ref a5, .ref a6, .int (nI Wr), .ref a7, .ref a8, .int (nI pa), .int (nI fl), .ref a9, .int (nI ln), .ref a10])), (a1, .inl (D.1 100, 3318, .inl w)), (a4, .inl (D.1 100, 20, .inl Bo)), (a5, .inl (D.1 100, 20, .inl Bt)), (a6, .inl (D.1 100, 20, .inl Bs))] : va_W)) = Q
  refine g_aload_n hX dX7_write_0 rfl ?_
  refine g_iload_n hX dX7_write_1 rfl ?_
  refine g_callRi hX dX7_write_2 cw_X7_69 (ct_X7_isKnown  (by first | with_reducible assumption | rfl)) 0 8 [0, 1] rfl rfl rfl rfl (by decide) rfl ⟨by decide, by decide⟩ (Nat.le_of_ble_eq_true rfl) (Nat.le_refl _) (Nat.le_refl _) ?_
  refine g_ifb_eq (tgt := 16) hX dX7_write_5 (by decide) (fun h5 => ?_) (fun h5 => ?_)
  · skip
    refine g_ldc hX dX7_write_16 kc_X7_239 ?_
    subst hQ
    exact g_zretU hX dX7_write_18 (vp_nar_int _) ((-1000000001), bo, bt, bs, wr) (⟨rfl, (writeR_no (by rw [h5]; rfl)).symm⟩) rfl (Nat.le_refl _) (Nat.le_refl _)
  · skip
    refine g_aload_n hX dX7_write_8 rfl ?_
    refine g_iload_n hX dX7_write_9 rfl ?_
    refine g_callRi hX dX7_write_10 cw_X7_69 (ct_X7_isKnown  (by first | with_reducible assumption | rfl)) 0 8 [0, 1] rfl rfl rfl rfl (by decide) rfl ⟨by decide, by decide⟩ (Nat.le_of_ble_eq_true rfl) (Nat.le_refl _) (Nat.le_refl _) ?_
    refine g_ifb_ne (tgt := 19) hX dX7_write_13 (by decide) (fun h13 => ?_) (fun h13 => ?_)
    · skip
      obtain ⟨c1, hc1, ec1, kc1⟩ := isKn_in h5
      subst ec1
      obtain ⟨d1, hd1, ed1, kd1⟩ := isKn_in h13
      subst ed1
      refine g_aload_n hX dX7_write_19 rfl ?_
      refine g_getf hX dX7_write_20 fk_X7_240 0 rfl rfl ?_
      refine g_bipush hX dX7_write_23 kn_b_20 ?_
      refine g_icmpN_ne (tgt := 31) hX dX7_write_25 (by decide) (by omega) (by omega) (fun h25 => ?_) (fun h25 => ?_)
      · skip
        refine g_aload_n hX dX7_write_31 rfl ?_
        refine g_getf hX dX7_write_32 fk_X7_23 0 rfl rfl ?_
        refine g_aload_n hX dX7_write_35 rfl ?_
        refine g_getf hX dX7_write_36 fk_X7_240 0 rfl rfl ?_
        refine g_iload_n hX dX7_write_39 rfl ?_
        refine g_iast (ws' := [(a0, .inr (8, [.ref a1, .int (nI uk), .int kp, .int sd, .ref a2, .ref a3, .int (nI sz), .int fa, .ref a4, .ref a5, .ref a6, .int (nI wr), .ref a7, .ref a8, .int (nI pa), .int (nI fl), .ref a9, .int (nI ln), .ref a10])), (a1, .inl (D.1 100, 3318, .inl w)), (a4, .inl (D.1 100, 20, .inl (upd bo wr (nI c1)))), (a5, .inl (D.1 100, 20, .inl bt)), (a6, .inl (D.1 100, 20, .inl bs))]) hX dX7_write_40 2 rfl (by decide) (by omega) rfl ?_
        refine g_aload_n hX dX7_write_41 rfl ?_
        refine g_getf hX dX7_write_42 fk_X7_26 0 rfl rfl ?_
        refine g_aload_n hX dX7_write_45 rfl ?_
        refine g_getf hX dX7_write_46 fk_X7_240 0 rfl rfl ?_
        refine g_iload_n hX dX7_write_49 rfl ?_
        refine g_iast (ws' := [(a0, .inr (8, [.ref a1, .int (nI uk), .int kp, .int sd, .ref a2, .ref a3, .int (nI sz), .int fa, .ref a4, .ref a5, .ref a6, .int (nI wr), .ref a7, .ref a8, .int (nI pa), .int (nI fl), .ref a9, .int (nI ln), .ref a10])), (a1, .inl (D.1 100, 3318, .inl w)), (a4, .inl (D.1 100, 20, .inl (upd bo wr (nI c1)))), (a5, .inl (D.1 100, 20, .inl (upd bt wr (nI d1)))), (a6, .inl (D.1 100, 20, .inl bs))]) hX dX7_write_50 3 rfl (by decide) (by omega) rfl ?_
        refine g_aload_n hX dX7_write_51 rfl ?_
        refine g_getf hX dX7_write_52 fk_X7_29 0 rfl rfl ?_
        refine g_aload_n hX dX7_write_55 rfl ?_
        refine g_getf hX dX7_write_56 fk_X7_240 0 rfl rfl ?_
        refine g_iload_n hX dX7_write_59 rfl ?_
        refine g_iast (ws' := [(a0, .inr (8, [.ref a1, .int (nI uk), .int kp, .int sd, .ref a2, .ref a3, .int (nI sz), .int fa, .ref a4, .ref a5, .ref a6, .int (nI wr), .ref a7, .ref a8, .int (nI pa), .int (nI fl), .ref a9, .int (nI ln), .ref a10])), (a1, .inl (D.1 100, 3318, .inl w)), (a4, .inl (D.1 100, 20, .inl (upd bo wr (nI c1)))), (a5, .inl (D.1 100, 20, .inl (upd bt wr (nI d1)))), (a6, .inl (D.1 100, 20, .inl (upd bs wr g)))]) hX dX7_write_60 4 rfl (by decide) (by omega) rfl ?_
        refine g_aload_n hX dX7_write_61 rfl ?_
        refine g_dup hX dX7_write_62 rfl ?_
        refine g_getf hX dX7_write_63 fk_X7_240 0 rfl rfl ?_
        refine g_iconst hX dX7_write_66 kn_i_1 ?_
        refine g_iaddN hX dX7_write_67 ?_
        refine g_puti (ws' := [(a0, .inr (8, [.ref a1, .int (nI uk), .int kp, .int sd, .ref a2, .ref a3, .int (nI sz), .int fa, .ref a4, .ref a5, .ref a6, .int (nI (wr + 1)), .ref a7, .ref a8, .int (nI pa), .int (nI fl), .ref a9, .int (nI ln), .ref a10])), (a1, .inl (D.1 100, 3318, .inl w)), (a4, .inl (D.1 100, 20, .inl (upd bo wr (nI c1)))), (a5, .inl (D.1 100, 20, .inl (upd bt wr (nI d1)))), (a6, .inl (D.1 100, 20, .inl (upd bs wr g)))]) hX dX7_write_68 fp_X7_240 0 rfl (Nat.le_of_ble_eq_true rfl) rfl ?_
        refine g_aload_n hX dX7_write_71 rfl ?_
        refine g_getf hX dX7_write_72 fk_X7_240 0 rfl rfl ?_
        subst hQ
        exact g_zretU hX dX7_write_75 (vp_nar_int _) ((nI (wr + 1)), upd bo wr (nI c1), upd bt wr (nI d1), upd bs wr g, wr + 1) (⟨rfl, (writeR_ok (by rw [isKn_n hc1]; exact kc1) (by rw [isKn_n hd1]; exact kd1) h25).symm⟩) rfl (Nat.le_refl _) (Nat.le_refl _)
      · skip
        refine g_ldc hX dX7_write_28 kc_X7_211 ?_
        subst hQ
        exact g_zretU hX dX7_write_30 (vp_nar_int _) ((-1000000004), bo, bt, bs, wr) (⟨rfl, (writeR_full (by rw [isKn_n hc1]; exact kc1) (by rw [isKn_n hd1]; exact kd1) h25).symm⟩) rfl (Nat.le_refl _) (Nat.le_refl _)
    · skip
      refine g_ldc hX dX7_write_16 kc_X7_239 ?_
      subst hQ
      exact g_zretU hX dX7_write_18 (vp_nar_int _) ((-1000000001), bo, bt, bs, wr) (⟨rfl, (writeR_no (by rw [h5, h13]; rfl)).symm⟩) rfl (Nat.le_refl _) (Nat.le_refl _)
set_option maxRecDepth 100000 in
set_option maxHeartbeats 4000000 in
theorem ct_X7_tear {l : Launch} {D : va_G} {a0 a1 a2 a3 a4 a5 a6 a7 a8 a9 a10 uk sz wr pa fl ln : Nat} {kp sd fa : Int32}  : Cf l D yX7_tear cX7_tear 2 (some .int) 0 0 [.ref a0] [(a0, .inr (8, [.ref a1, .int (nI uk), .int kp, .int sd, .ref a2, .ref a3, .int (nI sz), .int fa, .ref a4, .ref a5, .ref a6, .int (nI wr), .ref a7, .ref a8, .int (nI pa), .int (nI fl), .ref a9, .int (nI ln), .ref a10]))] (some (.int (nI wr))) [(a0, .inr (8, [.ref a1, .int (nI uk), .int kp, .int sd, .ref a2, .ref a3, .int (nI sz), .int fa, .ref a4, .ref a5, .ref a6, .int (nI 0), .ref a7, .ref a8, .int (nI pa), .int (nI fl), .ref a9, .int (nI ln), .ref a10]))] := by
  refine Ct.ofG (by decide) (Nat.le_of_ble_eq_true rfl) ?_
  intro X hX
  have hX : CX X l D RX7 "tear" cX7_tear 2 (some .int) 0 0 0 0 := hX
  show G X (QF X (some (.int (nI wr))) [(a0, .inr (8, [.ref a1, .int (nI uk), .int kp, .int sd, .ref a2, .ref a3, .int (nI sz), .int fa, .ref a4, .ref a5, .ref a6, .int (nI 0), .ref a7, .ref a8, .int (nI pa), .int (nI fl), .ref a9, .int (nI ln), .ref a10]))]) [(a0, .inr (8, [.ref a1, .int (nI uk), .int kp, .int sd, .ref a2, .ref a3, .int (nI sz), .int fa, .ref a4, .ref a5, .ref a6, .int (nI wr), .ref a7, .ref a8, .int (nI pa), .int (nI fl), .ref a9, .int (nI ln), .ref a10]))] 0 0 0 [some (.ref a0), none] []
  generalize hQ : QF X (some (.int (nI wr))) [(a0, .inr (8, [.ref a1, .int (nI uk), .int kp, .int sd, .ref a2, .ref a3, .int (nI sz), .int fa, .ref a4, .ref a5, .ref a6, .int (nI 0), .ref a7, .ref a8, .int (nI pa), .int (nI fl), .ref a9, .int (nI ln), .ref a10]))] = Q
  refine g_aload_n hX dX7_tear_0 rfl ?_
  refine g_getf hX dX7_tear_1 fk_X7_240 0 rfl rfl ?_
  refine g_istore_n (L' := [some (.ref a0), some (.int (nI wr))]) hX dX7_tear_4 (by decide) rfl ?_
  refine g_aload_n hX dX7_tear_5 rfl ?_
  refine g_iconst hX dX7_tear_6 kn_i_0 ?_
  refine g_puti (ws' := [(a0, .inr (8, [.ref a1, .int (nI uk), .int kp, .int sd, .ref a2, .ref a3, .int (nI sz), .int fa, .ref a4, .ref a5, .ref a6, .int (nI 0), .ref a7, .ref a8, .int (nI pa), .int (nI fl), .ref a9, .int (nI ln), .ref a10]))]) hX dX7_tear_7 fp_X7_240 0 rfl (Nat.le_of_ble_eq_true rfl) rfl ?_
  refine g_iload_n hX dX7_tear_10 rfl ?_
  subst hQ
  exact g_iret hX dX7_tear_11 (rfl) (rfl) rfl rfl
set_option maxRecDepth 100000 in
set_option maxHeartbeats 4000000 in
theorem ct_X7_seed {l : Launch} {D : va_G} {a0 a1 a2 a3 a4 a5 a6 a7 a8 a9 a10 uk sz wr pa fl ln : Nat} {kp sd fa : Int32} {x : Int32}  : Ct (S := Int32 × Int32) l D yX7_seed cX7_seed 3 (some .int) 0 0 0 0 [.ref a0, .int x] [(a0, .inr (8, [.ref a1, .int (nI uk), .int kp, .int sd, .ref a2, .ref a3, .int (nI sz), .int fa, .ref a4, .ref a5, .ref a6, .int (nI wr), .ref a7, .ref a8, .int (nI pa), .int (nI fl), .ref a9, .int (nI ln), .ref a10]))] (fun (r : Option Value) (u : Int32 × Int32) => match u with | (V, S) => r = (some (.int V)) ∧ ((V, S) = seedR sd x)) (fun (u : Int32 × Int32) => match u with | (V, S) => ([(a0, .inr (8, [.ref a1, .int (nI uk), .int kp, .int S, .ref a2, .ref a3, .int (nI sz), .int fa, .ref a4, .ref a5, .ref a6, .int (nI wr), .ref a7, .ref a8, .int (nI pa), .int (nI fl), .ref a9, .int (nI ln), .ref a10]))] : va_W)) := by
  refine Ct.ofG (by decide) (Nat.le_of_ble_eq_true rfl) ?_
  intro X hX
  have hX : CX X l D RX7 "seed" cX7_seed 3 (some .int) 0 0 0 0 := hX
  show G X (QM X 0 0 (fun (r : Option Value) (u : Int32 × Int32) => match u with | (V, S) => r = (some (.int V)) ∧ ((V, S) = seedR sd x)) (fun (u : Int32 × Int32) => match u with | (V, S) => ([(a0, .inr (8, [.ref a1, .int (nI uk), .int kp, .int S, .ref a2, .ref a3, .int (nI sz), .int fa, .ref a4, .ref a5, .ref a6, .int (nI wr), .ref a7, .ref a8, .int (nI pa), .int (nI fl), .ref a9, .int (nI ln), .ref a10]))] : va_W))) [(a0, .inr (8, [.ref a1, .int (nI uk), .int kp, .int sd, .ref a2, .ref a3, .int (nI sz), .int fa, .ref a4, .ref a5, .ref a6, .int (nI wr), .ref a7, .ref a8, .int (nI pa), .int (nI fl), .ref a9, .int (nI ln), .ref a10]))] 0 0 0 [some (.ref a0), some (.int x), none] []
  generalize hQ : QM X 0 0 (fun (r : Option Value) (u : Int32 × Int32) => match u with | (V, S) => r = (some (.int V)) ∧ ((V, S) = seedR sd x)) (fun (u : Int32 × Int32) => match u with | (V, S) => ([(a0, .inr (8, [.ref a1, .int (nI uk), .int kp, .int S, .ref a2, .ref a3, .int (nI sz), .int fa, .ref a4, .ref a5, .ref a6, .int (nI wr), .ref a7, .ref a8, .int (nI pa), .int (nI fl), .ref a9, .int (nI ln), .ref a10]))] : va_W)) = Q
  refine g_iload_n hX dX7_seed_0 rfl ?_
  refine g_if_ge (tgt := 7) hX dX7_seed_1 (by decide) (fun h1 => ?_) (fun h1 => ?_)
  · skip
    refine g_aload_n hX dX7_seed_7 rfl ?_
    refine g_getf hX dX7_seed_8 fk_X7_246 0 rfl rfl ?_
    refine g_istore_n (L' := [some (.ref a0), some (.int x), some (.int sd)]) hX dX7_seed_11 (by decide) rfl ?_
    refine g_aload_n hX dX7_seed_12 rfl ?_
    refine g_iload_n hX dX7_seed_13 rfl ?_
    refine g_puti (ws' := [(a0, .inr (8, [.ref a1, .int (nI uk), .int kp, .int x, .ref a2, .ref a3, .int (nI sz), .int fa, .ref a4, .ref a5, .ref a6, .int (nI wr), .ref a7, .ref a8, .int (nI pa), .int (nI fl), .ref a9, .int (nI ln), .ref a10]))]) hX dX7_seed_14 fp_X7_246 0 rfl (Nat.le_of_ble_eq_true rfl) rfl ?_
    refine g_iload_n hX dX7_seed_17 rfl ?_
    subst hQ
    exact g_zretU hX dX7_seed_18 (vp_nar_int _) (sd, x) (⟨rfl, (if_pos h1).symm⟩) rfl (Nat.le_refl _) (Nat.le_refl _)
  · skip
    refine g_ldc hX dX7_seed_4 kc_X7_210 ?_
    subst hQ
    exact g_zretU hX dX7_seed_6 (vp_nar_int _) ((-1000000002), sd) (⟨rfl, (if_neg h1).symm⟩) rfl (Nat.le_refl _) (Nat.le_refl _)
set_option maxRecDepth 100000 in
set_option maxHeartbeats 4000000 in
theorem ct_X7_keep {l : Launch} {D : va_G} {a0 a1 a2 a3 a4 a5 a6 a7 a8 a9 a10 uk sz wr pa fl ln : Nat} {kp sd fa : Int32} {w isd : Nat → Int32} {k : Int32}  : Ct (S := Int32 × (Nat → Int32) × (Nat → Int32) × Int32 × Nat) l D yX7_keep cX7_keep 2 (some .int) 1 25 0 0 [.ref a0, .int k] [(a0, .inr (8, [.ref a1, .int (nI uk), .int kp, .int sd, .ref a2, .ref a3, .int (nI sz), .int fa, .ref a4, .ref a5, .ref a6, .int (nI wr), .ref a7, .ref a8, .int (nI pa), .int (nI fl), .ref a9, .int (nI ln), .ref a10])), (a1, .inl (D.1 100, 3318, .inl w)), (a2, .inl (D.1 100, 2, .inl isd))] (fun (r : Option Value) (u : Int32 × (Nat → Int32) × (Nat → Int32) × Int32 × Nat) => match u with | (V, W, Is, Kp, U) => r = (some (.int V)) ∧ ((V, W, Is, Kp, U) = keepR w isd uk kp sd k)) (fun (u : Int32 × (Nat → Int32) × (Nat → Int32) × Int32 × Nat) => match u with | (V, W, Is, Kp, U) => ([(a0, .inr (8, [.ref a1, .int (nI U), .int Kp, .int sd, .ref a2, .ref a3, .int (nI sz), .int fa, .ref a4, .ref a5, .ref a6, .int (nI wr), .ref a7, .ref a8, .int (nI pa), .int (nI fl), .ref a9, .int (nI ln), .ref a10])), (a1, .inl (D.1 100, 3318, .inl W)), (a2, .inl (D.1 100, 2, .inl Is))] : va_W)) := by
  refine Ct.ofG (by decide) (Nat.le_of_ble_eq_true rfl) ?_
  intro X hX
  have hX : CX X l D RX7 "keep" cX7_keep 2 (some .int) 1 25 0 0 := hX
  show G X (QM X 0 0 (fun (r : Option Value) (u : Int32 × (Nat → Int32) × (Nat → Int32) × Int32 × Nat) => match u with | (V, W, Is, Kp, U) => r = (some (.int V)) ∧ ((V, W, Is, Kp, U) = keepR w isd uk kp sd k)) (fun (u : Int32 × (Nat → Int32) × (Nat → Int32) × Int32 × Nat) => match u with | (V, W, Is, Kp, U) => ([(a0, .inr (8, [.ref a1, .int (nI U), .int Kp, .int sd, .ref a2, .ref a3, .int (nI sz), .int fa, .ref a4, .ref a5, .ref a6, .int (nI wr), .ref a7, .ref a8, .int (nI pa), .int (nI fl), .ref a9, .int (nI ln), .ref a10])), (a1, .inl (D.1 100, 3318, .inl W)), (a2, .inl (D.1 100, 2, .inl Is))] : va_W))) [(a0, .inr (8, [.ref a1, .int (nI uk), .int kp, .int sd, .ref a2, .ref a3, .int (nI sz), .int fa, .ref a4, .ref a5, .ref a6, .int (nI wr), .ref a7, .ref a8, .int (nI pa), .int (nI fl), .ref a9, .int (nI ln), .ref a10])), (a1, .inl (D.1 100, 3318, .inl w)), (a2, .inl (D.1 100, 2, .inl isd))] 0 0 0 [some (.ref a0), some (.int k)] []
  generalize hQ : QM X 0 0 (fun (r : Option Value) (u : Int32 × (Nat → Int32) × (Nat → Int32) × Int32 × Nat) => match u with | (V, W, Is, Kp, U) => r = (some (.int V)) ∧ ((V, W, Is, Kp, U) = keepR w isd uk kp sd k)) (fun (u : Int32 × (Nat → Int32) × (Nat → Int32) × Int32 × Nat) => match u with | (V, W, Is, Kp, U) => ([(a0, .inr (8, [.ref a1, .int (nI U), .int Kp, .int sd, .ref a2, .ref a3, .int (nI sz), .int fa, .ref a4, .ref a5, .ref a6, .int (nI wr), .ref a7, .ref a8, .int (nI pa), .int (nI fl), .ref a9, .int (nI ln), .ref a10])), (a1, .inl (D.1 100, 3318, .inl W)), (a2, .inl (D.1 100, 2, .inl Is))] : va_W)) = Q
  refine g_iload_n hX dX7_keep_0 rfl ?_
  refine g_i2l hX dX7_keep_1 ?_
  refine g_lconst (v := 0) hX dX7_keep_2 rfl ?_
  refine g_lconst (v := 1) hX dX7_keep_3 rfl ?_
  refine g_callSRi hX dX7_keep_4 cw_X7_53 ct_X7_in [] rfl rfl (by decide) rfl ⟨by decide, by decide⟩ (Nat.le_of_ble_eq_true rfl) (Nat.le_refl _) (Nat.le_refl _) ?_
  refine g_ifb_ne (tgt := 13) hX dX7_keep_7 (by decide) (fun h7 => ?_) (fun h7 => ?_)
  · skip
    obtain ⟨k1, hk1, ek1⟩ := inT (n := 1) (by decide) h7
    subst ek1
    refine g_aload_n hX dX7_keep_13 rfl ?_
    refine g_iconst hX dX7_keep_14 kn_i_0 ?_
    refine g_bipush hX dX7_keep_15 kn_b_17 ?_
    refine g_iload_n hX dX7_keep_17 rfl ?_
    refine g_iaddN hX dX7_keep_18 ?_
    refine g_callFv (ws' := [(a0, .inr (8, [.ref a1, .int (nI uk), .int kp, .int sd, .ref a2, .ref a3, .int (nI sz), .int fa, .ref a4, .ref a5, .ref a6, .int (nI wr), .ref a7, .ref a8, .int (nI pa), .int (nI fl), .ref a9, .int (nI ln), .ref a10])), (a1, .inl (D.1 100, 3318, .inl (cpRow w 0 (17 + k1)))), (a2, .inl (D.1 100, 2, .inl isd))]) hX dX7_keep_19 cw_X7_44 (ct_X7_copyRow  (by first | with_reducible assumption | rfl) (by omega) (by omega) (by omega)) 0 8 [0, 1] rfl rfl rfl rfl (by decide) rfl rfl ⟨by decide, by decide⟩ (Nat.le_of_ble_eq_true rfl) (Nat.le_refl _) (Nat.le_refl _) rfl ?_
    refine g_aload_n hX dX7_keep_22 rfl ?_
    refine g_getf hX dX7_keep_23 fk_X7_13 0 rfl rfl ?_
    refine g_iload_n hX dX7_keep_26 rfl ?_
    refine g_aload_n hX dX7_keep_27 rfl ?_
    refine g_getf hX dX7_keep_28 fk_X7_246 0 rfl rfl ?_
    refine g_iast (ws' := [(a0, .inr (8, [.ref a1, .int (nI uk), .int kp, .int sd, .ref a2, .ref a3, .int (nI sz), .int fa, .ref a4, .ref a5, .ref a6, .int (nI wr), .ref a7, .ref a8, .int (nI pa), .int (nI fl), .ref a9, .int (nI ln), .ref a10])), (a1, .inl (D.1 100, 3318, .inl (cpRow w 0 (17 + k1)))), (a2, .inl (D.1 100, 2, .inl (upd isd k1 sd)))]) hX dX7_keep_31 2 rfl (by decide) (by omega) rfl ?_
    refine g_aload_n hX dX7_keep_32 rfl ?_
    refine g_dup hX dX7_keep_33 rfl ?_
    refine g_getf hX dX7_keep_34 fk_X7_301 0 rfl rfl ?_
    refine g_iconst hX dX7_keep_37 kn_i_1 ?_
    refine g_iload_n hX dX7_keep_38 rfl ?_
    refine g_ishl hX dX7_keep_39 ?_
    refine g_ior hX dX7_keep_40 ?_
    refine g_puti (ws' := [(a0, .inr (8, [.ref a1, .int (nI uk), .int (kp ||| ((nI 1) <<< ((nI k1) &&& 31))), .int sd, .ref a2, .ref a3, .int (nI sz), .int fa, .ref a4, .ref a5, .ref a6, .int (nI wr), .ref a7, .ref a8, .int (nI pa), .int (nI fl), .ref a9, .int (nI ln), .ref a10])), (a1, .inl (D.1 100, 3318, .inl (cpRow w 0 (17 + k1)))), (a2, .inl (D.1 100, 2, .inl (upd isd k1 sd)))]) hX dX7_keep_41 fp_X7_301 0 rfl (Nat.le_of_ble_eq_true rfl) rfl ?_
    refine g_aload_n hX dX7_keep_44 rfl ?_
    refine g_iconst hX dX7_keep_45 kn_i_0 ?_
    refine g_puti (ws' := [(a0, .inr (8, [.ref a1, .int (nI 0), .int (kp ||| ((nI 1) <<< ((nI k1) &&& 31))), .int sd, .ref a2, .ref a3, .int (nI sz), .int fa, .ref a4, .ref a5, .ref a6, .int (nI wr), .ref a7, .ref a8, .int (nI pa), .int (nI fl), .ref a9, .int (nI ln), .ref a10])), (a1, .inl (D.1 100, 3318, .inl (cpRow w 0 (17 + k1)))), (a2, .inl (D.1 100, 2, .inl (upd isd k1 sd)))]) hX dX7_keep_46 fp_X7_48 0 rfl (Nat.le_of_ble_eq_true rfl) rfl ?_
    refine g_iconst hX dX7_keep_49 kn_i_1 ?_
    subst hQ
    exact g_zretU hX dX7_keep_50 (vp_nar_int _) ((nI 1), cpRow w 0 (17 + k1), upd isd k1 sd, kp ||| ((nI 1) <<< ((nI k1) &&& 31)), 0) (⟨rfl, (keepR_ok hk1).symm⟩) rfl (Nat.le_refl _) (Nat.le_refl _)
  · skip
    refine g_ldc hX dX7_keep_10 kc_X7_239 ?_
    subst hQ
    exact g_zretU hX dX7_keep_12 (vp_nar_int _) ((-1000000001), w, isd, kp, uk) (⟨rfl, (keepR_no h7).symm⟩) rfl (Nat.le_refl _) (Nat.le_refl _)
set_option maxRecDepth 100000 in
set_option maxHeartbeats 4000000 in
theorem ct_X7_goBack {l : Launch} {D : va_G} {a0 a1 a2 a3 a4 a5 a6 a7 a8 a9 a10 uk sz wr pa fl ln : Nat} {kp sd fa : Int32} {w isd : Nat → Int32} {k : Int32}  : Ct (S := Int32 × (Nat → Int32) × Int32 × Nat) l D yX7_goBack cX7_goBack 2 (some .int) 1 25 0 0 [.ref a0, .int k] [(a0, .inr (8, [.ref a1, .int (nI uk), .int kp, .int sd, .ref a2, .ref a3, .int (nI sz), .int fa, .ref a4, .ref a5, .ref a6, .int (nI wr), .ref a7, .ref a8, .int (nI pa), .int (nI fl), .ref a9, .int (nI ln), .ref a10])), (a1, .inl (D.1 100, 3318, .inl w)), (a2, .inl (D.1 100, 2, .inl isd))] (fun (r : Option Value) (u : Int32 × (Nat → Int32) × Int32 × Nat) => match u with | (V, W, S, U) => r = (some (.int V)) ∧ ((V, W, S, U) = goBackR w isd uk kp sd k)) (fun (u : Int32 × (Nat → Int32) × Int32 × Nat) => match u with | (V, W, S, U) => ([(a0, .inr (8, [.ref a1, .int (nI U), .int kp, .int S, .ref a2, .ref a3, .int (nI sz), .int fa, .ref a4, .ref a5, .ref a6, .int (nI wr), .ref a7, .ref a8, .int (nI pa), .int (nI fl), .ref a9, .int (nI ln), .ref a10])), (a1, .inl (D.1 100, 3318, .inl W)), (a2, .inl (D.1 100, 2, .inl isd))] : va_W)) := by
  refine Ct.ofG (by decide) (Nat.le_of_ble_eq_true rfl) ?_
  intro X hX
  have hX : CX X l D RX7 "goBack" cX7_goBack 2 (some .int) 1 25 0 0 := hX
  show G X (QM X 0 0 (fun (r : Option Value) (u : Int32 × (Nat → Int32) × Int32 × Nat) => match u with | (V, W, S, U) => r = (some (.int V)) ∧ ((V, W, S, U) = goBackR w isd uk kp sd k)) (fun (u : Int32 × (Nat → Int32) × Int32 × Nat) => match u with | (V, W, S, U) => ([(a0, .inr (8, [.ref a1, .int (nI U), .int kp, .int S, .ref a2, .ref a3, .int (nI sz), .int fa, .ref a4, .ref a5, .ref a6, .int (nI wr), .ref a7, .ref a8, .int (nI pa), .int (nI fl), .ref a9, .int (nI ln), .ref a10])), (a1, .inl (D.1 100, 3318, .inl W)), (a2, .inl (D.1 100, 2, .inl isd))] : va_W))) [(a0, .inr (8, [.ref a1, .int (nI uk), .int kp, .int sd, .ref a2, .ref a3, .int (nI sz), .int fa, .ref a4, .ref a5, .ref a6, .int (nI wr), .ref a7, .ref a8, .int (nI pa), .int (nI fl), .ref a9, .int (nI ln), .ref a10])), (a1, .inl (D.1 100, 3318, .inl w)), (a2, .inl (D.1 100, 2, .inl isd))] 0 0 0 [some (.ref a0), some (.int k)] []
  generalize hQ : QM X 0 0 (fun (r : Option Value) (u : Int32 × (Nat → Int32) × Int32 × Nat) => match u with | (V, W, S, U) => r = (some (.int V)) ∧ ((V, W, S, U) = goBackR w isd uk kp sd k)) (fun (u : Int32 × (Nat → Int32) × Int32 × Nat) => match u with | (V, W, S, U) => ([(a0, .inr (8, [.ref a1, .int (nI U), .int kp, .int S, .ref a2, .ref a3, .int (nI sz), .int fa, .ref a4, .ref a5, .ref a6, .int (nI wr), .ref a7, .ref a8, .int (nI pa), .int (nI fl), .ref a9, .int (nI ln), .ref a10])), (a1, .inl (D.1 100, 3318, .inl W)), (a2, .inl (D.1 100, 2, .inl isd))] : va_W)) = Q
  refine g_iload_n hX dX7_goBack_0 rfl ?_
  refine g_i2l hX dX7_goBack_1 ?_
  refine g_lconst (v := 0) hX dX7_goBack_2 rfl ?_
  refine g_lconst (v := 1) hX dX7_goBack_3 rfl ?_
  refine g_callSRi hX dX7_goBack_4 cw_X7_53 ct_X7_in [] rfl rfl (by decide) rfl ⟨by decide, by decide⟩ (Nat.le_of_ble_eq_true rfl) (Nat.le_refl _) (Nat.le_refl _) ?_
  refine g_ifb_ne (tgt := 13) hX dX7_goBack_7 (by decide) (fun h7 => ?_) (fun h7 => ?_)
  · skip
    have hi7 := h7
    obtain ⟨k1, hk1, ek1⟩ := inT (n := 1) (by decide) h7
    subst ek1
    refine g_aload_n hX dX7_goBack_13 rfl ?_
    refine g_getf hX dX7_goBack_14 fk_X7_301 0 rfl rfl ?_
    refine g_iload_n hX dX7_goBack_17 rfl ?_
    refine g_callSRi hX dX7_goBack_18 cw_X7_57 ct_X7_has [] rfl rfl (by decide) rfl ⟨by decide, by decide⟩ (Nat.le_of_ble_eq_true rfl) (Nat.le_refl _) (Nat.le_refl _) ?_
    refine g_ifb_ne (tgt := 28) hX dX7_goBack_21 (by decide) (fun h21 => ?_) (fun h21 => ?_)
    · skip
      refine g_aload_n hX dX7_goBack_28 rfl ?_
      refine g_bipush hX dX7_goBack_29 kn_b_17 ?_
      refine g_iload_n hX dX7_goBack_31 rfl ?_
      refine g_iaddN hX dX7_goBack_32 ?_
      refine g_iconst hX dX7_goBack_33 kn_i_0 ?_
      refine g_callFv (ws' := [(a0, .inr (8, [.ref a1, .int (nI uk), .int kp, .int sd, .ref a2, .ref a3, .int (nI sz), .int fa, .ref a4, .ref a5, .ref a6, .int (nI wr), .ref a7, .ref a8, .int (nI pa), .int (nI fl), .ref a9, .int (nI ln), .ref a10])), (a1, .inl (D.1 100, 3318, .inl (cpRow w (17 + k1) 0))), (a2, .inl (D.1 100, 2, .inl isd))]) hX dX7_goBack_34 cw_X7_44 (ct_X7_copyRow  (by first | with_reducible assumption | rfl) (by omega) (by omega) (by omega)) 0 8 [0, 1] rfl rfl rfl rfl (by decide) rfl rfl ⟨by decide, by decide⟩ (Nat.le_of_ble_eq_true rfl) (Nat.le_refl _) (Nat.le_refl _) rfl ?_
      refine g_aload_n hX dX7_goBack_37 rfl ?_
      refine g_aload_n hX dX7_goBack_38 rfl ?_
      refine g_getf hX dX7_goBack_39 fk_X7_13 0 rfl rfl ?_
      refine g_iload_n hX dX7_goBack_42 rfl ?_
      refine g_iald hX dX7_goBack_43 2 rfl (by decide) (by omega) ?_
      refine g_puti (ws' := [(a0, .inr (8, [.ref a1, .int (nI uk), .int kp, .int (isd k1), .ref a2, .ref a3, .int (nI sz), .int fa, .ref a4, .ref a5, .ref a6, .int (nI wr), .ref a7, .ref a8, .int (nI pa), .int (nI fl), .ref a9, .int (nI ln), .ref a10])), (a1, .inl (D.1 100, 3318, .inl (cpRow w (17 + k1) 0))), (a2, .inl (D.1 100, 2, .inl isd))]) hX dX7_goBack_44 fp_X7_246 0 rfl (Nat.le_of_ble_eq_true rfl) rfl ?_
      refine g_aload_n hX dX7_goBack_47 rfl ?_
      refine g_iconst hX dX7_goBack_48 kn_i_0 ?_
      refine g_puti (ws' := [(a0, .inr (8, [.ref a1, .int (nI 0), .int kp, .int (isd k1), .ref a2, .ref a3, .int (nI sz), .int fa, .ref a4, .ref a5, .ref a6, .int (nI wr), .ref a7, .ref a8, .int (nI pa), .int (nI fl), .ref a9, .int (nI ln), .ref a10])), (a1, .inl (D.1 100, 3318, .inl (cpRow w (17 + k1) 0))), (a2, .inl (D.1 100, 2, .inl isd))]) hX dX7_goBack_49 fp_X7_48 0 rfl (Nat.le_of_ble_eq_true rfl) rfl ?_
      refine g_iconst hX dX7_goBack_52 kn_i_1 ?_
      subst hQ
      exact g_zretU hX dX7_goBack_53 (vp_nar_int _) ((nI 1), cpRow w (17 + k1) 0, isd k1, 0) (⟨rfl, (goBackR_ok hk1 h21).symm⟩) rfl (Nat.le_refl _) (Nat.le_refl _)
    · skip
      refine g_ldcw hX dX7_goBack_24 kc_X7_280 ?_
      subst hQ
      exact g_zretU hX dX7_goBack_27 (vp_nar_int _) ((-1000000003), w, sd, uk) (⟨rfl, (goBackR_un hi7 h21).symm⟩) rfl (Nat.le_refl _) (Nat.le_refl _)
  · skip
    refine g_ldc hX dX7_goBack_10 kc_X7_239 ?_
    subst hQ
    exact g_zretU hX dX7_goBack_12 (vp_nar_int _) ((-1000000001), w, sd, uk) (⟨rfl, (goBackR_no h7).symm⟩) rfl (Nat.le_refl _) (Nat.le_refl _)
set_option maxRecDepth 100000 in
set_option maxHeartbeats 4000000 in
theorem ct_X7_feed {l : Launch} {D : va_G} {a0 a1 a2 a3 a4 a5 a6 a7 a8 a9 a10 uk sz wr pa fl ln : Nat} {kp sd fa : Int32} {t : Nat → Nat} {c : Int32} (hsz : sz ≤ 150) : Ct (S := Int32 × (Nat → Nat) × Nat) l D yX7_feed cX7_feed 2 (some .int) 1 25 0 0 [.ref a0, .int c] [(a0, .inr (8, [.ref a1, .int (nI uk), .int kp, .int sd, .ref a2, .ref a3, .int (nI sz), .int fa, .ref a4, .ref a5, .ref a6, .int (nI wr), .ref a7, .ref a8, .int (nI pa), .int (nI fl), .ref a9, .int (nI ln), .ref a10])), (a3, .inl (D.1 100, 150, .inl (fun k => nI (t k))))] (fun (r : Option Value) (u : Int32 × (Nat → Nat) × Nat) => match u with | (V, T, Z) => r = (some (.int V)) ∧ ((V, T, Z) = feedR t sz c)) (fun (u : Int32 × (Nat → Nat) × Nat) => match u with | (V, T, Z) => ([(a0, .inr (8, [.ref a1, .int (nI uk), .int kp, .int sd, .ref a2, .ref a3, .int (nI Z), .int fa, .ref a4, .ref a5, .ref a6, .int (nI wr), .ref a7, .ref a8, .int (nI pa), .int (nI fl), .ref a9, .int (nI ln), .ref a10])), (a3, .inl (D.1 100, 150, .inl (fun k => nI (T k))))] : va_W)) := by
  refine Ct.ofG (by decide) (Nat.le_of_ble_eq_true rfl) ?_
  intro X hX
  have hX : CX X l D RX7 "feed" cX7_feed 2 (some .int) 1 25 0 0 := hX
  show G X (QM X 0 0 (fun (r : Option Value) (u : Int32 × (Nat → Nat) × Nat) => match u with | (V, T, Z) => r = (some (.int V)) ∧ ((V, T, Z) = feedR t sz c)) (fun (u : Int32 × (Nat → Nat) × Nat) => match u with | (V, T, Z) => ([(a0, .inr (8, [.ref a1, .int (nI uk), .int kp, .int sd, .ref a2, .ref a3, .int (nI Z), .int fa, .ref a4, .ref a5, .ref a6, .int (nI wr), .ref a7, .ref a8, .int (nI pa), .int (nI fl), .ref a9, .int (nI ln), .ref a10])), (a3, .inl (D.1 100, 150, .inl (fun k => nI (T k))))] : va_W))) [(a0, .inr (8, [.ref a1, .int (nI uk), .int kp, .int sd, .ref a2, .ref a3, .int (nI sz), .int fa, .ref a4, .ref a5, .ref a6, .int (nI wr), .ref a7, .ref a8, .int (nI pa), .int (nI fl), .ref a9, .int (nI ln), .ref a10])), (a3, .inl (D.1 100, 150, .inl (fun k => nI (t k))))] 0 0 0 [some (.ref a0), some (.int c)] []
  generalize hQ : QM X 0 0 (fun (r : Option Value) (u : Int32 × (Nat → Nat) × Nat) => match u with | (V, T, Z) => r = (some (.int V)) ∧ ((V, T, Z) = feedR t sz c)) (fun (u : Int32 × (Nat → Nat) × Nat) => match u with | (V, T, Z) => ([(a0, .inr (8, [.ref a1, .int (nI uk), .int kp, .int sd, .ref a2, .ref a3, .int (nI Z), .int fa, .ref a4, .ref a5, .ref a6, .int (nI wr), .ref a7, .ref a8, .int (nI pa), .int (nI fl), .ref a9, .int (nI ln), .ref a10])), (a3, .inl (D.1 100, 150, .inl (fun k => nI (T k))))] : va_W)) = Q
  refine g_iload_n hX dX7_feed_0 rfl ?_
  refine g_i2l hX dX7_feed_1 ?_
  refine g_lconst (v := 0) hX dX7_feed_2 rfl ?_
  refine g_ldc2 hX dX7_feed_3 kc_X7_208 ?_
  refine g_callSRi hX dX7_feed_6 cw_X7_53 ct_X7_in [] rfl rfl (by decide) rfl ⟨by decide, by decide⟩ (Nat.le_of_ble_eq_true rfl) (Nat.le_refl _) (Nat.le_refl _) ?_
  refine g_ifb_ne (tgt := 15) hX dX7_feed_9 (by decide) (fun h9 => ?_) (fun h9 => ?_)
  · skip
    have hi9 := h9
    obtain ⟨c1, hc1, ec1⟩ := inT (n := 255) (by decide) h9
    subst ec1
    refine g_aload_n hX dX7_feed_15 rfl ?_
    refine g_getf hX dX7_feed_16 fk_X7_135 0 rfl rfl ?_
    refine g_sipush hX dX7_feed_19 kn_s_150 ?_
    refine g_icmpN_ne (tgt := 28) hX dX7_feed_22 (by decide) (by omega) (by omega) (fun h22 => ?_) (fun h22 => ?_)
    · skip
      refine g_aload_n hX dX7_feed_28 rfl ?_
      refine g_getf hX dX7_feed_29 fk_X7_16 0 rfl rfl ?_
      refine g_aload_n hX dX7_feed_32 rfl ?_
      refine g_getf hX dX7_feed_33 fk_X7_135 0 rfl rfl ?_
      refine g_iload_n hX dX7_feed_36 rfl ?_
      refine g_iast (ws' := [(a0, .inr (8, [.ref a1, .int (nI uk), .int kp, .int sd, .ref a2, .ref a3, .int (nI sz), .int fa, .ref a4, .ref a5, .ref a6, .int (nI wr), .ref a7, .ref a8, .int (nI pa), .int (nI fl), .ref a9, .int (nI ln), .ref a10])), (a3, .inl (D.1 100, 150, .inl (upd (fun k => nI (t k)) sz (nI c1))))]) hX dX7_feed_37 1 rfl (by decide) (by omega) rfl ?_
      refine g_eq (ws' := [(a0, .inr (8, [.ref a1, .int (nI uk), .int kp, .int sd, .ref a2, .ref a3, .int (nI sz), .int fa, .ref a4, .ref a5, .ref a6, .int (nI wr), .ref a7, .ref a8, .int (nI pa), .int (nI fl), .ref a9, .int (nI ln), .ref a10])), (a3, .inl (D.1 100, 150, .inl (fun k => nI (updN t sz c1 k))))]) ?_ (by rw [upd_nI]) rfl rfl
      refine g_aload_n hX dX7_feed_38 rfl ?_
      refine g_dup hX dX7_feed_39 rfl ?_
      refine g_getf hX dX7_feed_40 fk_X7_135 0 rfl rfl ?_
      refine g_iconst hX dX7_feed_43 kn_i_1 ?_
      refine g_iaddN hX dX7_feed_44 ?_
      refine g_puti (ws' := [(a0, .inr (8, [.ref a1, .int (nI uk), .int kp, .int sd, .ref a2, .ref a3, .int (nI (sz + 1)), .int fa, .ref a4, .ref a5, .ref a6, .int (nI wr), .ref a7, .ref a8, .int (nI pa), .int (nI fl), .ref a9, .int (nI ln), .ref a10])), (a3, .inl (D.1 100, 150, .inl (fun k => nI (updN t sz c1 k))))]) hX dX7_feed_45 fp_X7_135 0 rfl (Nat.le_of_ble_eq_true rfl) rfl ?_
      refine g_aload_n hX dX7_feed_48 rfl ?_
      refine g_getf hX dX7_feed_49 fk_X7_135 0 rfl rfl ?_
      subst hQ
      exact g_zretU hX dX7_feed_52 (vp_nar_int _) ((nI (sz + 1)), updN t sz c1, sz + 1) (⟨rfl, (feedR_ok hi9 hc1 h22).symm⟩) rfl (Nat.le_refl _) (Nat.le_refl _)
    · skip
      refine g_ldc hX dX7_feed_25 kc_X7_211 ?_
      subst hQ
      exact g_zretU hX dX7_feed_27 (vp_nar_int _) ((-1000000004), t, sz) (⟨rfl, (feedR_full hi9 h22).symm⟩) rfl (Nat.le_refl _) (Nat.le_refl _)
  · skip
    refine g_ldc hX dX7_feed_12 kc_X7_210 ?_
    subst hQ
    exact g_zretU hX dX7_feed_14 (vp_nar_int _) ((-1000000002), t, sz) (⟨rfl, (feedR_no h9).symm⟩) rfl (Nat.le_refl _) (Nat.le_refl _)
set_option maxRecDepth 100000 in
set_option maxHeartbeats 4000000 in
theorem ct_X7_fault {l : Launch} {D : va_G} {a0 a1 a2 a3 a4 a5 a6 a7 a8 a9 a10 uk sz wr pa fl ln : Nat} {kp sd fa : Int32}  : Cf l D yX7_fault cX7_fault 1 (some .int) 0 0 [.ref a0] [(a0, .inr (8, [.ref a1, .int (nI uk), .int kp, .int sd, .ref a2, .ref a3, .int (nI sz), .int fa, .ref a4, .ref a5, .ref a6, .int (nI wr), .ref a7, .ref a8, .int (nI pa), .int (nI fl), .ref a9, .int (nI ln), .ref a10]))] (some (.int fa)) [(a0, .inr (8, [.ref a1, .int (nI uk), .int kp, .int sd, .ref a2, .ref a3, .int (nI sz), .int fa, .ref a4, .ref a5, .ref a6, .int (nI wr), .ref a7, .ref a8, .int (nI pa), .int (nI fl), .ref a9, .int (nI ln), .ref a10]))] := by
  refine Ct.ofG (by decide) (Nat.le_of_ble_eq_true rfl) ?_
  intro X hX
  have hX : CX X l D RX7 "fault" cX7_fault 1 (some .int) 0 0 0 0 := hX
  show G X (QF X (some (.int fa)) [(a0, .inr (8, [.ref a1, .int (nI uk), .int kp, .int sd, .ref a2, .ref a3, .int (nI sz), .int fa, .ref a4, .ref a5, .ref a6, .int (nI wr), .ref a7, .ref a8, .int (nI pa), .int (nI fl), .ref a9, .int (nI ln), .ref a10]))]) [(a0, .inr (8, [.ref a1, .int (nI uk), .int kp, .int sd, .ref a2, .ref a3, .int (nI sz), .int fa, .ref a4, .ref a5, .ref a6, .int (nI wr), .ref a7, .ref a8, .int (nI pa), .int (nI fl), .ref a9, .int (nI ln), .ref a10]))] 0 0 0 [some (.ref a0)] []
  generalize hQ : QF X (some (.int fa)) [(a0, .inr (8, [.ref a1, .int (nI uk), .int kp, .int sd, .ref a2, .ref a3, .int (nI sz), .int fa, .ref a4, .ref a5, .ref a6, .int (nI wr), .ref a7, .ref a8, .int (nI pa), .int (nI fl), .ref a9, .int (nI ln), .ref a10]))] = Q
  refine g_aload_n hX dX7_fault_0 rfl ?_
  refine g_getf hX dX7_fault_1 fk_X7_19 0 rfl rfl ?_
  subst hQ
  exact g_iret hX dX7_fault_4 (rfl) (rfl) rfl rfl
