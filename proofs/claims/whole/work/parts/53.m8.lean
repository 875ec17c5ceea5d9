set_option maxRecDepth 100000 in
set_option maxHeartbeats 4000000 in
theorem ct_X7_number {l : Launch} {D : va_G} {a0 a1 a2 a3 a4 a5 a6 a7 a8 a9 a10 uk sz wr pa fl ln : Nat} {kp sd fa : Int32} {t : Nat → Nat} {lo hi : Nat} (hsz : sz ≤ 150) (hpa : pa ≤ sz) (hfl : fl < 100) (ht : ∀ k, t k < 256) (hlo : lo < 100) (hhi : hi < 100) : Ct (S := Nat × Nat × Nat × Int32) l D yX7_number cX7_number 5 (some .int) 2 47 0 0 [.ref a0, .int (nI lo), .int (nI hi)] [(a0, .inr (8, [.ref a1, .int (nI uk), .int kp, .int sd, .ref a2, .ref a3, .int (nI sz), .int fa, .ref a4, .ref a5, .ref a6, .int (nI wr), .ref a7, .ref a8, .int (nI pa), .int (nI fl), .ref a9, .int (nI ln), .ref a10])), (a3, .inl (D.1 100, 150, .inl (fun k => nI (t k))))] (fun (r : Option Value) (u : Nat × Nat × Nat × Int32) => match u with | (V, A, F, P) => r = (some (.int (nI V))) ∧ (fltP fl fa F P A sz (qNum t sz lo hi pa) (fun a => V = a.1 ∧ A = a.2)) ∧ (V < 100)) (fun (u : Nat × Nat × Nat × Int32) => match u with | (V, A, F, P) => ([(a0, .inr (8, [.ref a1, .int (nI uk), .int kp, .int sd, .ref a2, .ref a3, .int (nI sz), .int P, .ref a4, .ref a5, .ref a6, .int (nI wr), .ref a7, .ref a8, .int (nI A), .int (nI F), .ref a9, .int (nI ln), .ref a10])), (a3, .inl (D.1 100, 150, .inl (fun k => nI (t k))))] : va_W)) := by
  refine Ct.ofG (by decide) (Nat.le_of_ble_eq_true rfl) ?_
  intro X hX
  have hX : CX X l D RX7 "number" cX7_number 5 (some .int) 2 47 0 0 := hX
  show G X (QM X 0 0 (fun (r : Option Value) (u : Nat × Nat × Nat × Int32) => match u with | (V, A, F, P) => r = (some (.int (nI V))) ∧ (fltP fl fa F P A sz (qNum t sz lo hi pa) (fun a => V = a.1 ∧ A = a.2)) ∧ (V < 100)) (fun (u : Nat × Nat × Nat × Int32) => match u with | (V, A, F, P) => ([(a0, .inr (8, [.ref a1, .int (nI uk), .int kp, .int sd, .ref a2, .ref a3, .int (nI sz), .int P, .ref a4, .ref a5, .ref a6, .int (nI wr), .ref a7, .ref a8, .int (nI A), .int (nI F), .ref a9, .int (nI ln), .ref a10])), (a3, .inl (D.1 100, 150, .inl (fun k => nI (t k))))] : va_W))) [(a0, .inr (8, [.ref a1, .int (nI uk), .int kp, .int sd, .ref a2, .ref a3, .int (nI sz), .int fa, .ref a4, .ref a5, .ref a6, .int (nI wr), .ref a7, .ref a8, .int (nI pa), .int (nI fl), .ref a9, .int (nI ln), .ref a10])), (a3, .inl (D.1 100, 150, .inl (fun k => nI (t k))))] 0 0 0 [some (.ref a0), some (.int (nI lo)), some (.int (nI hi)), none, none] []
  generalize hQ : QM X 0 0 (fun (r : Option Value) (u : Nat × Nat × Nat × Int32) => match u with | (V, A, F, P) => r = (some (.int (nI V))) ∧ (fltP fl fa F P A sz (qNum t sz lo hi pa) (fun a => V = a.1 ∧ A = a.2)) ∧ (V < 100)) (fun (u : Nat × Nat × Nat × Int32) => match u with | (V, A, F, P) => ([(a0, .inr (8, [.ref a1, .int (nI uk), .int kp, .int sd, .ref a2, .ref a3, .int (nI sz), .int P, .ref a4, .ref a5, .ref a6, .int (nI wr), .ref a7, .ref a8, .int (nI A), .int (nI F), .ref a9, .int (nI ln), .ref a10])), (a3, .inl (D.1 100, 150, .inl (fun k => nI (t k))))] : va_W)) = Q
  refine g_aload_n hX dX7_number_0 rfl ?_
  refine g_callFv (ws' := [(a0, .inr (8, [.ref a1, .int (nI uk), .int kp, .int sd, .ref a2, .ref a3, .int (nI sz), .int fa, .ref a4, .ref a5, .ref a6, .int (nI wr), .ref a7, .ref a8, .int (nI (sk t sz pa)), .int (nI fl), .ref a9, .int (nI ln), .ref a10])), (a3, .inl (D.1 100, 150, .inl (fun k => nI (t k))))]) hX dX7_number_1 cw_X7_153 (ct_X7_skip  (by omega) (by omega) (by omega) (by first | with_reducible assumption | assumption)) 0 8 [0, 1] rfl rfl rfl rfl (by decide) rfl rfl ⟨by decide, by decide⟩ (Nat.le_of_ble_eq_true rfl) (Nat.le_refl _) (Nat.le_refl _) rfl ?_
  have hb0 := sk_le (t := t) hpa
  refine g_aload_n hX dX7_number_4 rfl ?_
  refine g_getf hX dX7_number_5 fk_X7_132 0 rfl rfl ?_
  refine g_istore_n (L' := [some (.ref a0), some (.int (nI lo)), some (.int (nI hi)), some (.int (nI (sk t sz pa))), none]) hX dX7_number_8 (by decide) rfl ?_
  refine g_aload_n hX dX7_number_9 rfl ?_
  refine g_iconst hX dX7_number_10 kn_i_0 ?_
  refine g_call hX dX7_number_11 cw_X7_161 (ct_X7_figure  (by omega) (by omega) (by omega) (by first | with_reducible assumption | assumption) (by omega)) 0 8 [0, 1] rfl rfl rfl rfl (by decide) rfl (fun ⟨_, _, _, _⟩ => rfl) ⟨by decide, by decide⟩ (Nat.le_of_ble_eq_true rfl) ⟨Nat.le_refl _, Nat.le_refl _⟩ (fun v u hp => ?_)
  obtain ⟨V11, A11, F11, P11⟩ := u
  obtain ⟨rfl, hs11, hv11⟩ := hp
  show G X Q [(a0, .inr (8, [.ref a1, .int (nI uk), .int kp, .int sd, .ref a2, .ref a3, .int (nI sz), .int P11, .ref a4, .ref a5, .ref a6, .int (nI wr), .ref a7, .ref a8, .int (nI A11), .int (nI F11), .ref a9, .int (nI ln), .ref a10])), (a3, .inl (D.1 100, 150, .inl (fun k => nI (t k))))] 0 0 14 [some (.ref a0), some (.int (nI lo)), some (.int (nI hi)), some (.int (nI (sk t sz pa))), none] [.int (nI V11)]
  refine g_istore (L' := [some (.ref a0), some (.int (nI lo)), some (.int (nI hi)), some (.int (nI (sk t sz pa))), some (.int (nI V11))]) hX dX7_number_14 (by decide) rfl ?_
  have hb1 : A11 ≤ sz := hs11.1
  have hfl1 : F11 < 100 := flt_F hs11 hfl (by intro e he; exact qFig_F he)
  refine g_aload_n hX dX7_number_16 rfl ?_
  refine g_getf hX dX7_number_17 fk_X7_138 0 rfl rfl ?_
  refine g_ifN_ne (tgt := 58) hX dX7_number_20 (by decide) (by omega) (fun h20 => ?_) (fun h20 => ?_)
  · skip
    refine g_aload_n hX dX7_number_58 rfl ?_
    refine g_getf hX dX7_number_59 fk_X7_138 0 rfl rfl ?_
    refine g_ifN_ne (tgt := 94) hX dX7_number_62 (by decide) (by omega) (fun h62 => ?_) (fun h62 => ?_)
    · skip
      refine g_iload hX dX7_number_94 rfl ?_
      subst hQ
      exact g_zretU hX dX7_number_96 (vp_nar_int _) (V11, A11, F11, P11) (⟨rfl, flt_bad hs11 h20 qNum_bad, by omega⟩) rfl (Nat.le_refl _) (Nat.le_refl _)
    · skip
      refine g_aload_n hX dX7_number_65 rfl ?_
      refine g_callRi hX dX7_number_66 cw_X7_141 (ct_X7_here  (by omega) (by omega) (by omega) (by first | with_reducible assumption | assumption)) 0 8 [0, 1] rfl rfl rfl rfl (by decide) rfl ⟨by decide, by decide⟩ (Nat.le_of_ble_eq_true rfl) (Nat.le_refl _) (Nat.le_refl _) ?_
      refine g_callSRi hX dX7_number_69 cw_X7_164 (ct_X7_isFigure  (smallO_here ht)) [] rfl rfl (by decide) rfl ⟨by decide, by decide⟩ (Nat.le_of_ble_eq_true rfl) (Nat.le_refl _) (Nat.le_refl _) ?_
      refine g_ifb_ne (tgt := 88) hX dX7_number_72 (by decide) (fun h72 => ?_) (fun h72 => ?_)
      · skip
        refine g_aload_n hX dX7_number_88 rfl ?_
        refine g_iconst hX dX7_number_89 kn_i_2 ?_
        refine g_iload_n hX dX7_number_90 rfl ?_
        refine g_call hX dX7_number_91 cw_X7_156 (ct_X7_fail  (by omega)) 0 8 [0] rfl rfl rfl rfl (by decide) rfl (fun ⟨_, _⟩ => rfl) ⟨by decide, by decide⟩ (Nat.le_of_ble_eq_true rfl) ⟨Nat.le_refl _, Nat.le_refl _⟩ (fun v u hp => ?_)
        obtain ⟨F91, P91⟩ := u
        obtain ⟨rfl, hs91⟩ := hp
        show G X Q [(a0, .inr (8, [.ref a1, .int (nI uk), .int kp, .int sd, .ref a2, .ref a3, .int (nI sz), .int P91, .ref a4, .ref a5, .ref a6, .int (nI wr), .ref a7, .ref a8, .int (nI A11), .int (nI F91), .ref a9, .int (nI ln), .ref a10])), (a3, .inl (D.1 100, 150, .inl (fun k => nI (t k))))] 0 0 94 [some (.ref a0), some (.int (nI lo)), some (.int (nI hi)), some (.int (nI (sk t sz pa))), some (.int (nI V11))] []
        refine g_iload hX dX7_number_94 rfl ?_
        subst hQ
        exact g_zretU hX dX7_number_96 (vp_nar_int _) (V11, A11, F91, P91) (absurd h62 h20) rfl (Nat.le_refl _) (Nat.le_refl _)
      · skip
        refine g_iload hX dX7_number_75 rfl ?_
        refine g_i2l hX dX7_number_77 ?_
        refine g_iload_n hX dX7_number_78 rfl ?_
        refine g_i2l hX dX7_number_79 ?_
        refine g_iload_n hX dX7_number_80 rfl ?_
        refine g_i2l hX dX7_number_81 ?_
        refine g_callSRi hX dX7_number_82 cw_X7_53 ct_X7_in [] rfl rfl (by decide) rfl ⟨by decide, by decide⟩ (Nat.le_of_ble_eq_true rfl) (Nat.le_refl _) (Nat.le_refl _) ?_
        refine g_ifb_ne (tgt := 94) hX dX7_number_85 (by decide) (fun h85 => ?_) (fun h85 => ?_)
        · skip
          refine g_iload hX dX7_number_94 rfl ?_
          subst hQ
          exact g_zretU hX dX7_number_96 (vp_nar_int _) (V11, A11, F11, P11) (absurd h62 h20) rfl (Nat.le_refl _) (Nat.le_refl _)
        · skip
          refine g_aload_n hX dX7_number_88 rfl ?_
          refine g_iconst hX dX7_number_89 kn_i_2 ?_
          refine g_iload_n hX dX7_number_90 rfl ?_
          refine g_call hX dX7_number_91 cw_X7_156 (ct_X7_fail  (by omega)) 0 8 [0] rfl rfl rfl rfl (by decide) rfl (fun ⟨_, _⟩ => rfl) ⟨by decide, by decide⟩ (Nat.le_of_ble_eq_true rfl) ⟨Nat.le_refl _, Nat.le_refl _⟩ (fun v u hp => ?_)
          obtain ⟨F91, P91⟩ := u
          obtain ⟨rfl, hs91⟩ := hp
          show G X Q [(a0, .inr (8, [.ref a1, .int (nI uk), .int kp, .int sd, .ref a2, .ref a3, .int (nI sz), .int P91, .ref a4, .ref a5, .ref a6, .int (nI wr), .ref a7, .ref a8, .int (nI A11), .int (nI F91), .ref a9, .int (nI ln), .ref a10])), (a3, .inl (D.1 100, 150, .inl (fun k => nI (t k))))] 0 0 94 [some (.ref a0), some (.int (nI lo)), some (.int (nI hi)), some (.int (nI (sk t sz pa))), some (.int (nI V11))] []
          refine g_iload hX dX7_number_94 rfl ?_
          subst hQ
          exact g_zretU hX dX7_number_96 (vp_nar_int _) (V11, A11, F91, P91) (absurd h62 h20) rfl (Nat.le_refl _) (Nat.le_refl _)
  · skip
    refine g_aload_n hX dX7_number_23 rfl ?_
    refine g_callRi hX dX7_number_24 cw_X7_141 (ct_X7_here  (by omega) (by omega) (by omega) (by first | with_reducible assumption | assumption)) 0 8 [0, 1] rfl rfl rfl rfl (by decide) rfl ⟨by decide, by decide⟩ (Nat.le_of_ble_eq_true rfl) (Nat.le_refl _) (Nat.le_refl _) ?_
    refine g_callSRi hX dX7_number_27 cw_X7_164 (ct_X7_isFigure  (smallO_here ht)) [] rfl rfl (by decide) rfl ⟨by decide, by decide⟩ (Nat.le_of_ble_eq_true rfl) (Nat.le_refl _) (Nat.le_refl _) ?_
    refine g_ifb_eq (tgt := 58) hX dX7_number_30 (by decide) (fun h30 => ?_) (fun h30 => ?_)
    · skip
      refine g_aload_n hX dX7_number_58 rfl ?_
      refine g_getf hX dX7_number_59 fk_X7_138 0 rfl rfl ?_
      refine g_ifN_ne (tgt := 94) hX dX7_number_62 (by decide) (by omega) (fun h62 => ?_) (fun h62 => ?_)
      · skip
        refine g_iload hX dX7_number_94 rfl ?_
        subst hQ
        exact g_zretU hX dX7_number_96 (vp_nar_int _) (V11, A11, F11, P11) (absurd h20 h62) rfl (Nat.le_refl _) (Nat.le_refl _)
      · skip
        refine g_aload_n hX dX7_number_65 rfl ?_
        refine g_callRi hX dX7_number_66 cw_X7_141 (ct_X7_here  (by omega) (by omega) (by omega) (by first | with_reducible assumption | assumption)) 0 8 [0, 1] rfl rfl rfl rfl (by decide) rfl ⟨by decide, by decide⟩ (Nat.le_of_ble_eq_true rfl) (Nat.le_refl _) (Nat.le_refl _) ?_
        refine g_callSRi hX dX7_number_69 cw_X7_164 (ct_X7_isFigure  (smallO_here ht)) [] rfl rfl (by decide) rfl ⟨by decide, by decide⟩ (Nat.le_of_ble_eq_true rfl) (Nat.le_refl _) (Nat.le_refl _) ?_
        refine g_ifb_ne (tgt := 88) hX dX7_number_72 (by decide) (fun h72 => ?_) (fun h72 => ?_)
        · skip
          refine g_aload_n hX dX7_number_88 rfl ?_
          refine g_iconst hX dX7_number_89 kn_i_2 ?_
          refine g_iload_n hX dX7_number_90 rfl ?_
          refine g_call hX dX7_number_91 cw_X7_156 (ct_X7_fail  (by omega)) 0 8 [0] rfl rfl rfl rfl (by decide) rfl (fun ⟨_, _⟩ => rfl) ⟨by decide, by decide⟩ (Nat.le_of_ble_eq_true rfl) ⟨Nat.le_refl _, Nat.le_refl _⟩ (fun v u hp => ?_)
          obtain ⟨F91, P91⟩ := u
          obtain ⟨rfl, hs91⟩ := hp
          show G X Q [(a0, .inr (8, [.ref a1, .int (nI uk), .int kp, .int sd, .ref a2, .ref a3, .int (nI sz), .int P91, .ref a4, .ref a5, .ref a6, .int (nI wr), .ref a7, .ref a8, .int (nI A11), .int (nI F91), .ref a9, .int (nI ln), .ref a10])), (a3, .inl (D.1 100, 150, .inl (fun k => nI (t k))))] 0 0 94 [some (.ref a0), some (.int (nI lo)), some (.int (nI hi)), some (.int (nI (sk t sz pa))), some (.int (nI V11))] []
          refine g_iload hX dX7_number_94 rfl ?_
          subst hQ
          exact g_zretU hX dX7_number_96 (vp_nar_int _) (V11, A11, F91, P91) (absurd (h30.symm.trans h72) (by decide)) rfl (Nat.le_refl _) (Nat.le_refl _)
        · skip
          refine g_iload hX dX7_number_75 rfl ?_
          refine g_i2l hX dX7_number_77 ?_
          refine g_iload_n hX dX7_number_78 rfl ?_
          refine g_i2l hX dX7_number_79 ?_
          refine g_iload_n hX dX7_number_80 rfl ?_
          refine g_i2l hX dX7_number_81 ?_
          refine g_callSRi hX dX7_number_82 cw_X7_53 ct_X7_in [] rfl rfl (by decide) rfl ⟨by decide, by decide⟩ (Nat.le_of_ble_eq_true rfl) (Nat.le_refl _) (Nat.le_refl _) ?_
          refine g_ifb_ne (tgt := 94) hX dX7_number_85 (by decide) (fun h85 => ?_) (fun h85 => ?_)
          · skip
            refine g_iload hX dX7_number_94 rfl ?_
            subst hQ
            exact g_zretU hX dX7_number_96 (vp_nar_int _) (V11, A11, F11, P11) (⟨rfl, by obtain ⟨e1, e2, ⟨v0, p0⟩, e3, e4, e5⟩ := flt_good hs11 h20; dsimp only at e4 e5; subst e4; subst e5; rw [inB_nn (by omega) (by omega) (by omega)] at h85; simp only [Bool.and_eq_true, decide_eq_true_eq] at h85; exact flt_ok hb1 e1 h20 e2 ((qNum_1 e3 h30).trans (if_neg (by omega))) ⟨rfl, rfl⟩, by omega⟩) rfl (Nat.le_refl _) (Nat.le_refl _)
          · skip
            refine g_aload_n hX dX7_number_88 rfl ?_
            refine g_iconst hX dX7_number_89 kn_i_2 ?_
            refine g_iload_n hX dX7_number_90 rfl ?_
            refine g_call hX dX7_number_91 cw_X7_156 (ct_X7_fail  (by omega)) 0 8 [0] rfl rfl rfl rfl (by decide) rfl (fun ⟨_, _⟩ => rfl) ⟨by decide, by decide⟩ (Nat.le_of_ble_eq_true rfl) ⟨Nat.le_refl _, Nat.le_refl _⟩ (fun v u hp => ?_)
            obtain ⟨F91, P91⟩ := u
            obtain ⟨rfl, hs91⟩ := hp
            show G X Q [(a0, .inr (8, [.ref a1, .int (nI uk), .int kp, .int sd, .ref a2, .ref a3, .int (nI sz), .int P91, .ref a4, .ref a5, .ref a6, .int (nI wr), .ref a7, .ref a8, .int (nI A11), .int (nI F91), .ref a9, .int (nI ln), .ref a10])), (a3, .inl (D.1 100, 150, .inl (fun k => nI (t k))))] 0 0 94 [some (.ref a0), some (.int (nI lo)), some (.int (nI hi)), some (.int (nI (sk t sz pa))), some (.int (nI V11))] []
            refine g_iload hX dX7_number_94 rfl ?_
            subst hQ
            exact g_zretU hX dX7_number_96 (vp_nar_int _) (V11, A11, F91, P91) (⟨rfl, by obtain ⟨e1, e2, ⟨v0, p0⟩, e3, e4, e5⟩ := flt_good hs11 h20; dsimp only at e4 e5; subst e4; subst e5; rw [inB_nn (by omega) (by omega) (by omega)] at h85; simp only [Bool.and_eq_false_iff, decide_eq_false_iff_not] at h85; exact flt_flt hb1 e1 ((qNum_1 e3 h30).trans (if_pos (by omega))) (hs91.1 h20).1 (hs91.1 h20).2 (by decide), by omega⟩) rfl (Nat.le_refl _) (Nat.le_refl _)
    · skip
      have hfi := figO_in h30
      refine g_bipush hX dX7_number_33 kn_b_10 ?_
      refine g_iload hX dX7_number_35 rfl ?_
      refine g_imulN hX dX7_number_37 ?_
      refine g_aload_n hX dX7_number_38 rfl ?_
      refine g_callRi hX dX7_number_39 cw_X7_141 (ct_X7_here  (by omega) (by omega) (by omega) (by first | with_reducible assumption | assumption)) 0 8 [0, 1] rfl rfl rfl rfl (by decide) rfl ⟨by decide, by decide⟩ (Nat.le_of_ble_eq_true rfl) (Nat.le_refl _) (Nat.le_refl _) ?_
      refine g_top (v' := nI (t A11)) (by rw [show hereO t sz A11 = some (t A11) by unfold hereO; rw [if_neg (by omega)]]; rfl) ?_
      refine g_iaddN hX dX7_number_42 ?_
      refine g_bipush hX dX7_number_43 kn_b_48 ?_
      refine g_isubN hX dX7_number_45 (by omega) ?_
      refine g_istore (L' := [some (.ref a0), some (.int (nI lo)), some (.int (nI hi)), some (.int (nI (sk t sz pa))), some (.int (nI (((10 * V11) + (t A11)) - 48)))]) hX dX7_number_46 (by decide) rfl ?_
      refine g_aload_n hX dX7_number_48 rfl ?_
      refine g_dup hX dX7_number_49 rfl ?_
      refine g_getf hX dX7_number_50 fk_X7_132 0 rfl rfl ?_
      refine g_iconst hX dX7_number_53 kn_i_1 ?_
      refine g_iaddN hX dX7_number_54 ?_
      refine g_puti (ws' := [(a0, .inr (8, [.ref a1, .int (nI uk), .int kp, .int sd, .ref a2, .ref a3, .int (nI sz), .int P11, .ref a4, .ref a5, .ref a6, .int (nI wr), .ref a7, .ref a8, .int (nI (A11 + 1)), .int (nI F11), .ref a9, .int (nI ln), .ref a10])), (a3, .inl (D.1 100, 150, .inl (fun k => nI (t k))))]) hX dX7_number_55 fp_X7_132 0 rfl (Nat.le_of_ble_eq_true rfl) rfl ?_
      refine g_aload_n hX dX7_number_58 rfl ?_
      refine g_getf hX dX7_number_59 fk_X7_138 0 rfl rfl ?_
      refine g_ifN_ne (tgt := 94) hX dX7_number_62 (by decide) (by omega) (fun h62 => ?_) (fun h62 => ?_)
      · skip
        refine g_iload hX dX7_number_94 rfl ?_
        subst hQ
        exact g_zretU hX dX7_number_96 (vp_nar_int _) (((10 * V11) + (t A11)) - 48, A11 + 1, F11, P11) (absurd h20 h62) rfl (Nat.le_refl _) (Nat.le_refl _)
      · skip
        refine g_aload_n hX dX7_number_65 rfl ?_
        refine g_callRi hX dX7_number_66 cw_X7_141 (ct_X7_here  (by omega) (by omega) (by omega) (by first | with_reducible assumption | assumption)) 0 8 [0, 1] rfl rfl rfl rfl (by decide) rfl ⟨by decide, by decide⟩ (Nat.le_of_ble_eq_true rfl) (Nat.le_refl _) (Nat.le_refl _) ?_
        refine g_callSRi hX dX7_number_69 cw_X7_164 (ct_X7_isFigure  (smallO_here ht)) [] rfl rfl (by decide) rfl ⟨by decide, by decide⟩ (Nat.le_of_ble_eq_true rfl) (Nat.le_refl _) (Nat.le_refl _) ?_
        refine g_ifb_ne (tgt := 88) hX dX7_number_72 (by decide) (fun h72 => ?_) (fun h72 => ?_)
        · skip
          refine g_aload_n hX dX7_number_88 rfl ?_
          refine g_iconst hX dX7_number_89 kn_i_2 ?_
          refine g_iload_n hX dX7_number_90 rfl ?_
          refine g_call hX dX7_number_91 cw_X7_156 (ct_X7_fail  (by omega)) 0 8 [0] rfl rfl rfl rfl (by decide) rfl (fun ⟨_, _⟩ => rfl) ⟨by decide, by decide⟩ (Nat.le_of_ble_eq_true rfl) ⟨Nat.le_refl _, Nat.le_refl _⟩ (fun v u hp => ?_)
          obtain ⟨F91, P91⟩ := u
          obtain ⟨rfl, hs91⟩ := hp
          show G X Q [(a0, .inr (8, [.ref a1, .int (nI uk), .int kp, .int sd, .ref a2, .ref a3, .int (nI sz), .int P91, .ref a4, .ref a5, .ref a6, .int (nI wr), .ref a7, .ref a8, .int (nI (A11 + 1)), .int (nI F91), .ref a9, .int (nI ln), .ref a10])), (a3, .inl (D.1 100, 150, .inl (fun k => nI (t k))))] 0 0 94 [some (.ref a0), some (.int (nI lo)), some (.int (nI hi)), some (.int (nI (sk t sz pa))), some (.int (nI (((10 * V11) + (t A11)) - 48)))] []
          refine g_iload hX dX7_number_94 rfl ?_
          subst hQ
          exact g_zretU hX dX7_number_96 (vp_nar_int _) (((10 * V11) + (t A11)) - 48, (A11 + 1), F91, P91) (⟨rfl, by obtain ⟨e1, e2, ⟨v0, p0⟩, e3, e4, e5⟩ := flt_good hs11 h20; dsimp only at e4 e5; subst e4; subst e5; exact flt_flt (by omega) e1 ((qNum_2 e3 h30).trans (if_pos (Or.inl h72))) (hs91.1 h20).1 (hs91.1 h20).2 (by decide), by omega⟩) rfl (Nat.le_refl _) (Nat.le_refl _)
        · skip
          refine g_iload hX dX7_number_75 rfl ?_
          refine g_i2l hX dX7_number_77 ?_
          refine g_iload_n hX dX7_number_78 rfl ?_
          refine g_i2l hX dX7_number_79 ?_
          refine g_iload_n hX dX7_number_80 rfl ?_
          refine g_i2l hX dX7_number_81 ?_
          refine g_callSRi hX dX7_number_82 cw_X7_53 ct_X7_in [] rfl rfl (by decide) rfl ⟨by decide, by decide⟩ (Nat.le_of_ble_eq_true rfl) (Nat.le_refl _) (Nat.le_refl _) ?_
          refine g_ifb_ne (tgt := 94) hX dX7_number_85 (by decide) (fun h85 => ?_) (fun h85 => ?_)
          · skip
            refine g_iload hX dX7_number_94 rfl ?_
            subst hQ
            exact g_zretU hX dX7_number_96 (vp_nar_int _) (((10 * V11) + (t A11)) - 48, A11 + 1, F11, P11) (⟨rfl, by obtain ⟨e1, e2, ⟨v0, p0⟩, e3, e4, e5⟩ := flt_good hs11 h20; dsimp only at e4 e5; subst e4; subst e5; rw [inB_nn (by omega) (by omega) (by omega)] at h85; simp only [Bool.and_eq_true, decide_eq_true_eq] at h85; exact flt_ok (by omega) e1 h20 e2 ((qNum_2 e3 h30).trans (if_neg (by rw [h72]; simp; omega))) ⟨by simp; omega, rfl⟩, by omega⟩) rfl (Nat.le_refl _) (Nat.le_refl _)
          · skip
            refine g_aload_n hX dX7_number_88 rfl ?_
            refine g_iconst hX dX7_number_89 kn_i_2 ?_
            refine g_iload_n hX dX7_number_90 rfl ?_
            refine g_call hX dX7_number_91 cw_X7_156 (ct_X7_fail  (by omega)) 0 8 [0] rfl rfl rfl rfl (by decide) rfl (fun ⟨_, _⟩ => rfl) ⟨by decide, by decide⟩ (Nat.le_of_ble_eq_true rfl) ⟨Nat.le_refl _, Nat.le_refl _⟩ (fun v u hp => ?_)
            obtain ⟨F91, P91⟩ := u
            obtain ⟨rfl, hs91⟩ := hp
            show G X Q [(a0, .inr (8, [.ref a1, .int (nI uk), .int kp, .int sd, .ref a2, .ref a3, .int (nI sz), .int P91, .ref a4, .ref a5, .ref a6, .int (nI wr), .ref a7, .ref a8, .int (nI (A11 + 1)), .int (nI F91), .ref a9, .int (nI ln), .ref a10])), (a3, .inl (D.1 100, 150, .inl (fun k => nI (t k))))] 0 0 94 [some (.ref a0), some (.int (nI lo)), some (.int (nI hi)), some (.int (nI (sk t sz pa))), some (.int (nI (((10 * V11) + (t A11)) - 48)))] []
            refine g_iload hX dX7_number_94 rfl ?_
            subst hQ
            exact g_zretU hX dX7_number_96 (vp_nar_int _) (((10 * V11) + (t A11)) - 48, (A11 + 1), F91, P91) (⟨rfl, by obtain ⟨e1, e2, ⟨v0, p0⟩, e3, e4, e5⟩ := flt_good hs11 h20; dsimp only at e4 e5; subst e4; subst e5; rw [inB_nn (by omega) (by omega) (by omega)] at h85; simp only [Bool.and_eq_false_iff, decide_eq_false_iff_not] at h85; exact flt_flt (by omega) e1 ((qNum_2 e3 h30).trans (if_pos (Or.inr (by omega)))) (hs91.1 h20).1 (hs91.1 h20).2 (by decide), by omega⟩) rfl (Nat.le_refl _) (Nat.le_refl _)
