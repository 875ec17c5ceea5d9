set_option maxRecDepth 100000 in
set_option maxHeartbeats 4000000 in
theorem ct_X7_pairClause {l : Launch} {D : va_G} {a0 a1 a2 a3 a4 a5 a6 a7 a8 a9 a10 uk sz wr pa ln : Nat} {kp sd fa : Int32} {t : Nat → Nat} {w : Nat → Int32} {c d fr : Nat} (hsz : sz ≤ 150) (hpa : pa ≤ sz) (ht : ∀ k, t k < 256) (hc : c < 8) (hd : d < 8) : Ct (S := Nat × Nat × Int32 × (Nat → Int32)) l D yX7_pairClause cX7_pairClause 5 none 3 71 0 0 [.ref a0, .int (nI c), .int (nI d), .int (nI fr)] [(a0, .inr (8, [.ref a1, .int (nI uk), .int kp, .int sd, .ref a2, .ref a3, .int (nI sz), .int fa, .ref a4, .ref a5, .ref a6, .int (nI wr), .ref a7, .ref a8, .int (nI pa), .int (nI 0), .ref a9, .int (nI ln), .ref a10])), (a3, .inl (D.1 100, 150, .inl (fun k => nI (t k)))), (a1, .inl (D.1 100, 3318, .inl w))] (fun (r : Option Value) (u : Nat × Nat × Int32 × (Nat → Int32)) => match u with | (A, F, P, W) => r = none ∧ (fltP 0 fa F P A sz (qPair t sz w c d fr pa) (fun a => A = a.1 ∧ W = a.2)) ∧ (∀ k, 158 ≤ k → W k = w k)) (fun (u : Nat × Nat × Int32 × (Nat → Int32)) => match u with | (A, F, P, W) => ([(a0, .inr (8, [.ref a1, .int (nI uk), .int kp, .int sd, .ref a2, .ref a3, .int (nI sz), .int P, .ref a4, .ref a5, .ref a6, .int (nI wr), .ref a7, .ref a8, .int (nI A), .int (nI F), .ref a9, .int (nI ln), .ref a10])), (a3, .inl (D.1 100, 150, .inl (fun k => nI (t k)))), (a1, .inl (D.1 100, 3318, .inl W))] : va_W)) := by
  refine Ct.ofG (by decide) (Nat.le_of_ble_eq_true rfl) ?_
  intro X hX
  have hX : CX X l D RX7 "pairClause" cX7_pairClause 5 none 3 71 0 0 := hX
  show G X (QM X 0 0 (fun (r : Option Value) (u : Nat × Nat × Int32 × (Nat → Int32)) => match u with | (A, F, P, W) => r = none ∧ (fltP 0 fa F P A sz (qPair t sz w c d fr pa) (fun a => A = a.1 ∧ W = a.2)) ∧ (∀ k, 158 ≤ k → W k = w k)) (fun (u : Nat × Nat × Int32 × (Nat → Int32)) => match u with | (A, F, P, W) => ([(a0, .inr (8, [.ref a1, .int (nI uk), .int kp, .int sd, .ref a2, .ref a3, .int (nI sz), .int P, .ref a4, .ref a5, .ref a6, .int (nI wr), .ref a7, .ref a8, .int (nI A), .int (nI F), .ref a9, .int (nI ln), .ref a10])), (a3, .inl (D.1 100, 150, .inl (fun k => nI (t k)))), (a1, .inl (D.1 100, 3318, .inl W))] : va_W))) [(a0, .inr (8, [.ref a1, .int (nI uk), .int kp, .int sd, .ref a2, .ref a3, .int (nI sz), .int fa, .ref a4, .ref a5, .ref a6, .int (nI wr), .ref a7, .ref a8, .int (nI pa), .int (nI 0), .ref a9, .int (nI ln), .ref a10])), (a3, .inl (D.1 100, 150, .inl (fun k => nI (t k)))), (a1, .inl (D.1 100, 3318, .inl w))] 0 0 0 [some (.ref a0), some (.int (nI c)), some (.int (nI d)), some (.int (nI fr)), none] []
  generalize hQ : QM X 0 0 (fun (r : Option Value) (u : Nat × Nat × Int32 × (Nat → Int32)) => match u with | (A, F, P, W) => r = none ∧ (fltP 0 fa F P A sz (qPair t sz w c d fr pa) (fun a => A = a.1 ∧ W = a.2)) ∧ (∀ k, 158 ≤ k → W k = w k)) (fun (u : Nat × Nat × Int32 × (Nat → Int32)) => match u with | (A, F, P, W) => ([(a0, .inr (8, [.ref a1, .int (nI uk), .int kp, .int sd, .ref a2, .ref a3, .int (nI sz), .int P, .ref a4, .ref a5, .ref a6, .int (nI wr), .ref a7, .ref a8, .int (nI A), .int (nI F), .ref a9, .int (nI ln), .ref a10])), (a3, .inl (D.1 100, 150, .inl (fun k => nI (t k)))), (a1, .inl (D.1 100, 3318, .inl W))] : va_W)) = Q
  refine g_aload_n hX dX7_pairClause_0 rfl ?_
  refine g_iload_n hX dX7_pairClause_1 rfl ?_
  refine g_callRi hX dX7_pairClause_2 cw_X7_69 (ct_X7_isKnown_N  (by first | with_reducible assumption | rfl) (by omega)) 0 8 [0, 2] rfl rfl rfl rfl (by decide) rfl ⟨by decide, by decide⟩ (Nat.le_of_ble_eq_true rfl) (Nat.le_refl _) (Nat.le_refl _) ?_
  refine g_ifb_eq (tgt := 16) hX dX7_pairClause_5 (by decide) (fun h5 => ?_) (fun h5 => ?_)
  · skip
    refine g_aload_n hX dX7_pairClause_16 rfl ?_
    refine g_iconst hX dX7_pairClause_17 kn_i_3 ?_
    refine g_iload_n hX dX7_pairClause_18 rfl ?_
    refine g_call hX dX7_pairClause_19 cw_X7_156 (ct_X7_fail  (by omega)) 0 8 [0] rfl rfl rfl rfl (by decide) rfl (fun ⟨_, _⟩ => rfl) ⟨by decide, by decide⟩ (Nat.le_of_ble_eq_true rfl) ⟨Nat.le_refl _, Nat.le_refl _⟩ (fun v u hp => ?_)
    obtain ⟨F19, P19⟩ := u
    obtain ⟨rfl, hs19⟩ := hp
    show G X Q [(a0, .inr (8, [.ref a1, .int (nI uk), .int kp, .int sd, .ref a2, .ref a3, .int (nI sz), .int P19, .ref a4, .ref a5, .ref a6, .int (nI wr), .ref a7, .ref a8, .int (nI pa), .int (nI F19), .ref a9, .int (nI ln), .ref a10])), (a3, .inl (D.1 100, 150, .inl (fun k => nI (t k)))), (a1, .inl (D.1 100, 3318, .inl w))] 0 0 22 [some (.ref a0), some (.int (nI c)), some (.int (nI d)), some (.int (nI fr)), none] []
    subst hQ
    exact g_vretU hX dX7_pairClause_22 (pa, F19, P19, w) (⟨rfl, flt_flt hpa rfl (qPair_no (by rw [h5]; rfl)) (hs19.1 rfl).1 (hs19.1 rfl).2 (by decide), fun _ _ => rfl⟩) rfl (Nat.le_refl _) (Nat.le_refl _)
  · skip
    refine g_aload_n hX dX7_pairClause_8 rfl ?_
    refine g_iload_n hX dX7_pairClause_9 rfl ?_
    refine g_callRi hX dX7_pairClause_10 cw_X7_69 (ct_X7_isKnown_N  (by first | with_reducible assumption | rfl) (by omega)) 0 8 [0, 2] rfl rfl rfl rfl (by decide) rfl ⟨by decide, by decide⟩ (Nat.le_of_ble_eq_true rfl) (Nat.le_refl _) (Nat.le_refl _) ?_
    refine g_ifb_ne (tgt := 23) hX dX7_pairClause_13 (by decide) (fun h13 => ?_) (fun h13 => ?_)
    · skip
      refine g_aload_n hX dX7_pairClause_23 rfl ?_
      refine g_bipush hX dX7_pairClause_24 kn_b_58 ?_
      refine g_call hX dX7_pairClause_26 cw_X7_170 (ct_X7_want  (by omega) (by omega) (by omega) (by first | with_reducible assumption | assumption) (by omega)) 0 8 [0, 1] rfl rfl rfl rfl (by decide) rfl (fun ⟨_, _, _⟩ => rfl) ⟨by decide, by decide⟩ (Nat.le_of_ble_eq_true rfl) ⟨Nat.le_refl _, Nat.le_refl _⟩ (fun v u hp => ?_)
      obtain ⟨A26, F26, P26⟩ := u
      obtain ⟨rfl, hs26⟩ := hp
      show G X Q [(a0, .inr (8, [.ref a1, .int (nI uk), .int kp, .int sd, .ref a2, .ref a3, .int (nI sz), .int P26, .ref a4, .ref a5, .ref a6, .int (nI wr), .ref a7, .ref a8, .int (nI A26), .int (nI F26), .ref a9, .int (nI ln), .ref a10])), (a3, .inl (D.1 100, 150, .inl (fun k => nI (t k)))), (a1, .inl (D.1 100, 3318, .inl w))] 0 0 29 [some (.ref a0), some (.int (nI c)), some (.int (nI d)), some (.int (nI fr)), none] []
      have q1 := hs26.1
      have q2 : F26 < 100 := flt_F hs26 (by decide) (fun e he => qWant_F he)
      refine g_aload_n hX dX7_pairClause_29 rfl ?_
      refine g_callFv (ws' := [(a0, .inr (8, [.ref a1, .int (nI uk), .int kp, .int sd, .ref a2, .ref a3, .int (nI sz), .int P26, .ref a4, .ref a5, .ref a6, .int (nI wr), .ref a7, .ref a8, .int (nI (sk t sz A26)), .int (nI F26), .ref a9, .int (nI ln), .ref a10])), (a3, .inl (D.1 100, 150, .inl (fun k => nI (t k)))), (a1, .inl (D.1 100, 3318, .inl w))]) hX dX7_pairClause_30 cw_X7_153 (ct_X7_skip  (by omega) (by omega) (by omega) (by first | with_reducible assumption | assumption)) 0 8 [0, 1] rfl rfl rfl rfl (by decide) rfl rfl ⟨by decide, by decide⟩ (Nat.le_of_ble_eq_true rfl) (Nat.le_refl _) (Nat.le_refl _) rfl ?_
      have q3 := sk_le (t := t) hs26.1
      refine g_iconst hX dX7_pairClause_33 kn_i_1 ?_
      refine g_istore (L' := [some (.ref a0), some (.int (nI c)), some (.int (nI d)), some (.int (nI fr)), some (.int (nI 1))]) hX dX7_pairClause_34 (by decide) rfl ?_
      refine g_aload_n hX dX7_pairClause_36 rfl ?_
      refine g_getf hX dX7_pairClause_37 fk_X7_138 0 rfl rfl ?_
      refine g_ifN_ne (tgt := 65) hX dX7_pairClause_40 (by decide) (by omega) (fun h40 => ?_) (fun h40 => ?_)
      · skip
        refine g_aload_n hX dX7_pairClause_65 rfl ?_
        refine g_getf hX dX7_pairClause_66 fk_X7_138 0 rfl rfl ?_
        refine g_ifN_ne (tgt := 99) hX dX7_pairClause_69 (by decide) (by omega) (fun h69 => ?_) (fun h69 => ?_)
        · skip
          subst hQ
          exact g_vretU hX dX7_pairClause_99 (sk t sz A26, F26, P26, w) (⟨rfl, ⟨sk_le hs26.1, (flt_bad hs26 h40 (qPair_bad (by rw [h5, h13]; rfl))).2⟩, fun _ _ => rfl⟩) rfl (Nat.le_refl _) (Nat.le_refl _)
        · skip
          exact absurd h69 h40
      · skip
        obtain ⟨-, ep, a26, e26, ea⟩ := flt_good hs26 h40
        subst ea
        subst F26
        subst P26
        refine g_aload_n hX dX7_pairClause_43 rfl ?_
        refine g_callRi hX dX7_pairClause_44 cw_X7_141 (ct_X7_here  (by omega) (by omega) (by omega) (by first | with_reducible assumption | assumption)) 0 8 [0, 1] rfl rfl rfl rfl (by decide) rfl ⟨by decide, by decide⟩ (Nat.le_of_ble_eq_true rfl) (Nat.le_refl _) (Nat.le_refl _) ?_
        refine g_bipush hX dX7_pairClause_47 kn_b_45 ?_
        refine g_icmp_ne (tgt := 65) hX dX7_pairClause_49 (by decide) (fun h49 => ?_) (fun h49 => ?_)
        · skip
          have hh : ¬ hereO t sz (sk t sz A26) = some 45 := fun q => h49 ((oI_eq (smallO_here ht) (by omega)).mpr q)
          refine g_aload_n hX dX7_pairClause_65 rfl ?_
          refine g_getf hX dX7_pairClause_66 fk_X7_138 0 rfl rfl ?_
          refine g_if_ne (tgt := 99) hX dX7_pairClause_69 (by decide) (fun h => absurd (by decide) h) (fun _ => ?_)
          refine g_aload_n hX dX7_pairClause_72 rfl ?_
          refine g_getf hX dX7_pairClause_73 fk_X7_7 0 rfl rfl ?_
          refine g_bipush hX dX7_pairClause_76 kn_b_94 ?_
          refine g_bipush hX dX7_pairClause_78 kn_b_8 ?_
          refine g_iload_n hX dX7_pairClause_80 rfl ?_
          refine g_imulN hX dX7_pairClause_81 ?_
          refine g_iaddN hX dX7_pairClause_82 ?_
          refine g_iload_n hX dX7_pairClause_83 rfl ?_
          refine g_iaddN hX dX7_pairClause_84 ?_
          refine g_iload hX dX7_pairClause_85 rfl ?_
          refine g_aload_n hX dX7_pairClause_87 rfl ?_
          refine g_iconst hX dX7_pairClause_88 kn_i_0 ?_
          refine g_bipush hX dX7_pairClause_89 kn_b_20 ?_
          refine g_call hX dX7_pairClause_91 cw_X7_174 (ct_X7_number  (by omega) (by omega) (by omega) (by first | with_reducible assumption | assumption) (by omega) (by omega)) 0 8 [0, 1] rfl rfl rfl rfl (by decide) rfl (fun ⟨_, _, _, _⟩ => rfl) ⟨by decide, by decide⟩ (Nat.le_of_ble_eq_true rfl) ⟨Nat.le_refl _, Nat.le_refl _⟩ (fun v u hp => ?_)
          obtain ⟨V91, A91, F91, P91⟩ := u
          obtain ⟨rfl, hs91, hv91⟩ := hp
          show G X Q [(a0, .inr (8, [.ref a1, .int (nI uk), .int kp, .int sd, .ref a2, .ref a3, .int (nI sz), .int P91, .ref a4, .ref a5, .ref a6, .int (nI wr), .ref a7, .ref a8, .int (nI A91), .int (nI F91), .ref a9, .int (nI ln), .ref a10])), (a3, .inl (D.1 100, 150, .inl (fun k => nI (t k)))), (a1, .inl (D.1 100, 3318, .inl w))] 0 0 94 [some (.ref a0), some (.int (nI c)), some (.int (nI d)), some (.int (nI fr)), some (.int (nI 1))] [.int (nI V91), .int (nI 1), .int (nI ((94 + (8 * c)) + d)), .ref a1]
          refine g_imulN hX dX7_pairClause_94 ?_
          refine g_bipush hX dX7_pairClause_95 kn_b_100 ?_
          refine g_iaddN hX dX7_pairClause_97 ?_
          refine g_iast (ws' := [(a0, .inr (8, [.ref a1, .int (nI uk), .int kp, .int sd, .ref a2, .ref a3, .int (nI sz), .int P91, .ref a4, .ref a5, .ref a6, .int (nI wr), .ref a7, .ref a8, .int (nI A91), .int (nI F91), .ref a9, .int (nI ln), .ref a10])), (a3, .inl (D.1 100, 150, .inl (fun k => nI (t k)))), (a1, .inl (D.1 100, 3318, .inl (upd w ((94 + (8 * c)) + d) (nI ((1 * V91) + 100)))))]) hX dX7_pairClause_98 2 rfl (by decide) (by omega) rfl ?_
          subst hQ
          exact g_vretU hX dX7_pairClause_99 (A91, F91, P91, upd w ((94 + (8 * c)) + d) (nI ((1 * V91) + 100))) (⟨rfl, flt_map hs91 (fun e he => by rw [qPair_pos (by rw [h5, h13]; rfl) e26 hh, he]) (fun a ha ho => ⟨_, by rw [qPair_pos (by rw [h5, h13]; rfl) e26 hh, ha], ho.2, by rw [ho.1, show 1 * a.1 + 100 = 100 + a.1 by omega]⟩), fun k hk => pk_un (by omega)⟩) rfl (Nat.le_refl _) (Nat.le_refl _)
        · skip
          have hh := (oI_eq (smallO_here ht) (by omega)).mp h49
          have hhs := (hereO_some hh).1
          refine g_iconst hX dX7_pairClause_52 kn_i_m1 ?_
          refine g_istore (L' := [some (.ref a0), some (.int (nI c)), some (.int (nI d)), some (.int (nI fr)), some (.int (-1))]) hX dX7_pairClause_53 (by decide) rfl ?_
          refine g_aload_n hX dX7_pairClause_55 rfl ?_
          refine g_dup hX dX7_pairClause_56 rfl ?_
          refine g_getf hX dX7_pairClause_57 fk_X7_132 0 rfl rfl ?_
          refine g_iconst hX dX7_pairClause_60 kn_i_1 ?_
          refine g_iaddN hX dX7_pairClause_61 ?_
          refine g_puti (ws' := [(a0, .inr (8, [.ref a1, .int (nI uk), .int kp, .int sd, .ref a2, .ref a3, .int (nI sz), .int fa, .ref a4, .ref a5, .ref a6, .int (nI wr), .ref a7, .ref a8, .int (nI ((sk t sz A26) + 1)), .int (nI 0), .ref a9, .int (nI ln), .ref a10])), (a3, .inl (D.1 100, 150, .inl (fun k => nI (t k)))), (a1, .inl (D.1 100, 3318, .inl w))]) hX dX7_pairClause_62 fp_X7_132 0 rfl (Nat.le_of_ble_eq_true rfl) rfl ?_
          refine g_aload_n hX dX7_pairClause_65 rfl ?_
          refine g_getf hX dX7_pairClause_66 fk_X7_138 0 rfl rfl ?_
          refine g_if_ne (tgt := 99) hX dX7_pairClause_69 (by decide) (fun h => absurd (by decide) h) (fun _ => ?_)
          refine g_aload_n hX dX7_pairClause_72 rfl ?_
          refine g_getf hX dX7_pairClause_73 fk_X7_7 0 rfl rfl ?_
          refine g_bipush hX dX7_pairClause_76 kn_b_94 ?_
          refine g_bipush hX dX7_pairClause_78 kn_b_8 ?_
          refine g_iload_n hX dX7_pairClause_80 rfl ?_
          refine g_imulN hX dX7_pairClause_81 ?_
          refine g_iaddN hX dX7_pairClause_82 ?_
          refine g_iload_n hX dX7_pairClause_83 rfl ?_
          refine g_iaddN hX dX7_pairClause_84 ?_
          refine g_iload hX dX7_pairClause_85 rfl ?_
          refine g_aload_n hX dX7_pairClause_87 rfl ?_
          refine g_iconst hX dX7_pairClause_88 kn_i_0 ?_
          refine g_bipush hX dX7_pairClause_89 kn_b_20 ?_
          refine g_call hX dX7_pairClause_91 cw_X7_174 (ct_X7_number  (by omega) (by omega) (by omega) (by first | with_reducible assumption | assumption) (by omega) (by omega)) 0 8 [0, 1] rfl rfl rfl rfl (by decide) rfl (fun ⟨_, _, _, _⟩ => rfl) ⟨by decide, by decide⟩ (Nat.le_of_ble_eq_true rfl) ⟨Nat.le_refl _, Nat.le_refl _⟩ (fun v u hp => ?_)
          obtain ⟨V91, A91, F91, P91⟩ := u
          obtain ⟨rfl, hs91, hv91⟩ := hp
          show G X Q [(a0, .inr (8, [.ref a1, .int (nI uk), .int kp, .int sd, .ref a2, .ref a3, .int (nI sz), .int P91, .ref a4, .ref a5, .ref a6, .int (nI wr), .ref a7, .ref a8, .int (nI A91), .int (nI F91), .ref a9, .int (nI ln), .ref a10])), (a3, .inl (D.1 100, 150, .inl (fun k => nI (t k)))), (a1, .inl (D.1 100, 3318, .inl w))] 0 0 94 [some (.ref a0), some (.int (nI c)), some (.int (nI d)), some (.int (nI fr)), some (.int (-1))] [.int (nI V91), .int (-1), .int (nI ((94 + (8 * c)) + d)), .ref a1]
          refine g_imul hX dX7_pairClause_94 ?_
          refine g_bipush hX dX7_pairClause_95 kn_b_100 ?_
          refine g_iadd hX dX7_pairClause_97 ?_
          refine g_iast (ws' := [(a0, .inr (8, [.ref a1, .int (nI uk), .int kp, .int sd, .ref a2, .ref a3, .int (nI sz), .int P91, .ref a4, .ref a5, .ref a6, .int (nI wr), .ref a7, .ref a8, .int (nI A91), .int (nI F91), .ref a9, .int (nI ln), .ref a10])), (a3, .inl (D.1 100, 150, .inl (fun k => nI (t k)))), (a1, .inl (D.1 100, 3318, .inl (upd w ((94 + (8 * c)) + d) (((-1) * (nI V91)) + (nI 100)))))]) hX dX7_pairClause_98 2 rfl (by decide) (by omega) rfl ?_
          subst hQ
          exact g_vretU hX dX7_pairClause_99 (A91, F91, P91, upd w ((94 + (8 * c)) + d) (((-1) * (nI V91)) + (nI 100))) (⟨rfl, flt_map hs91 (fun e he => by rw [qPair_neg (by rw [h5, h13]; rfl) e26 hh, he]) (fun a ha ho => ⟨_, by rw [qPair_neg (by rw [h5, h13]; rfl) e26 hh, ha], ho.2, by have := (qNum_le ha).2; rw [ho.1, neg_gap (by omega)]⟩), fun k hk => pk_un (by omega)⟩) rfl (Nat.le_refl _) (Nat.le_refl _)
    · skip
      refine g_aload_n hX dX7_pairClause_16 rfl ?_
      refine g_iconst hX dX7_pairClause_17 kn_i_3 ?_
      refine g_iload_n hX dX7_pairClause_18 rfl ?_
      refine g_call hX dX7_pairClause_19 cw_X7_156 (ct_X7_fail  (by omega)) 0 8 [0] rfl rfl rfl rfl (by decide) rfl (fun ⟨_, _⟩ => rfl) ⟨by decide, by decide⟩ (Nat.le_of_ble_eq_true rfl) ⟨Nat.le_refl _, Nat.le_refl _⟩ (fun v u hp => ?_)
      obtain ⟨F19, P19⟩ := u
      obtain ⟨rfl, hs19⟩ := hp
      show G X Q [(a0, .inr (8, [.ref a1, .int (nI uk), .int kp, .int sd, .ref a2, .ref a3, .int (nI sz), .int P19, .ref a4, .ref a5, .ref a6, .int (nI wr), .ref a7, .ref a8, .int (nI pa), .int (nI F19), .ref a9, .int (nI ln), .ref a10])), (a3, .inl (D.1 100, 150, .inl (fun k => nI (t k)))), (a1, .inl (D.1 100, 3318, .inl w))] 0 0 22 [some (.ref a0), some (.int (nI c)), some (.int (nI d)), some (.int (nI fr)), none] []
      subst hQ
      exact g_vretU hX dX7_pairClause_22 (pa, F19, P19, w) (⟨rfl, flt_flt hpa rfl (qPair_no (by rw [h5, h13]; rfl)) (hs19.1 rfl).1 (hs19.1 rfl).2 (by decide), fun _ _ => rfl⟩) rfl (Nat.le_refl _) (Nat.le_refl _)
set_option maxRecDepth 100000 in
set_option maxHeartbeats 4000000 in
theorem ct_X7_wordOf {l : Launch} {D : va_G} {a3 a b : Nat} {t : Nat → Nat} (hb : b ≤ 150) (hab : a ≤ b) (hl : ∀ k, a ≤ k → k < b → 97 ≤ t k ∧ t k ≤ 122) : Cf l D yX7_wordOf cX7_wordOf 6 (some .long) 0 0 [.ref a3, .int (nI a), .int (nI b)] [(a3, .inl (D.1 100, 150, .inl (fun k => nI (t k))))] (some (.long (lN (wcd t a b)))) [(a3, .inl (D.1 100, 150, .inl (fun k => nI (t k))))] := by
  refine Ct.ofG (by decide) (Nat.le_of_ble_eq_true rfl) ?_
  intro X hX
  have hX : CX X l D RX7 "wordOf" cX7_wordOf 6 (some .long) 0 0 0 0 := hX
  show G X (QF X (some (.long (lN (wcd t a b)))) [(a3, .inl (D.1 100, 150, .inl (fun k => nI (t k))))]) [(a3, .inl (D.1 100, 150, .inl (fun k => nI (t k))))] 0 0 0 [some (.ref a3), some (.int (nI a)), some (.int (nI b)), none, none, none] []
  generalize hQ : QF X (some (.long (lN (wcd t a b)))) [(a3, .inl (D.1 100, 150, .inl (fun k => nI (t k))))] = Q
  refine g_lconst (v := 0) hX dX7_wordOf_0 rfl ?_
  refine g_lstore_n (L' := [some (.ref a3), some (.int (nI a)), some (.int (nI b)), some (.long 0), none, none]) hX dX7_wordOf_1 (by decide) rfl ?_
  refine g_iload_n hX dX7_wordOf_2 rfl ?_
  refine g_istore (L' := [some (.ref a3), some (.int (nI a)), some (.int (nI b)), some (.long 0), none, some (.int (nI a))]) hX dX7_wordOf_3 (by decide) rfl ?_
  have loop5 : ∀ k : Nat, k ≤ (if b - a < 10 then b - a else 10) → G X Q [(a3, .inl (D.1 100, 150, .inl (fun k => nI (t k))))] 0 0 5 [some (.ref a3), some (.int (nI a)), some (.int (nI b)), some (.long (lN (cdTo t a k))), none, some (.int (nI (a + k)))] [] := by
    refine loopN (if b - a < 10 then b - a else 10) (fun k hh5 ih5 => ?_)
    have hkb : k ≤ b - a ∧ k ≤ 10 := by split at hh5 <;> omega
    refine g_iload hX dX7_wordOf_5 rfl ?_
    refine g_iload_n hX dX7_wordOf_7 rfl ?_
    refine g_icmpN_ge (tgt := 44) hX dX7_wordOf_8 (by decide) (by omega) (by omega) (fun h8 => ?_) (fun h8 => ?_)
    · skip
      refine g_lload_n hX dX7_wordOf_44 rfl ?_
      subst hQ
      exact g_lret hX dX7_wordOf_45 (lR (by unfold wcd; rw [show k = (if b - a < 10 then b - a else 10) by split <;> omega])) (rfl) rfl rfl
    · skip
      refine g_iload hX dX7_wordOf_11 rfl ?_
      refine g_iload_n hX dX7_wordOf_13 rfl ?_
      refine g_bipush hX dX7_wordOf_14 kn_b_10 ?_
      refine g_iaddN hX dX7_wordOf_16 ?_
      refine g_icmpN_ge (tgt := 44) hX dX7_wordOf_17 (by decide) (by omega) (by omega) (fun h17 => ?_) (fun h17 => ?_)
      · skip
        refine g_lload_n hX dX7_wordOf_44 rfl ?_
        subst hQ
        exact g_lret hX dX7_wordOf_45 (lR (by unfold wcd; rw [show k = (if b - a < 10 then b - a else 10) by split <;> omega])) (rfl) rfl rfl
      · skip
        refine g_ldc2 hX dX7_wordOf_20 kc_X7_177 ?_
        refine g_lload_n hX dX7_wordOf_23 rfl ?_
        refine g_lmul hX dX7_wordOf_24 ?_
        refine g_aload_n hX dX7_wordOf_25 rfl ?_
        refine g_iload hX dX7_wordOf_26 rfl ?_
        refine g_iald hX dX7_wordOf_28 0 rfl (by decide) (by omega) ?_
        show G X Q [(a3, .inl (D.1 100, 150, .inl (fun k => nI (t k))))] 0 0 29 [some (.ref a3), some (.int (nI a)), some (.int (nI b)), some (.long (lN (cdTo t a k))), none, some (.int (nI (a + k)))] [.int (nI (t (a + k))), .long ((27) * (lN (cdTo t a k)))]
        refine g_i2l hX dX7_wordOf_29 ?_
        refine g_ladd hX dX7_wordOf_30 ?_
        refine g_ldc2 hX dX7_wordOf_31 kc_X7_149 ?_
        refine g_lsub hX dX7_wordOf_34 ?_
        refine g_lconst (v := 1) hX dX7_wordOf_35 rfl ?_
        refine g_ladd hX dX7_wordOf_36 ?_
        refine g_lstore_n (L' := [some (.ref a3), some (.int (nI a)), some (.int (nI b)), some (.long (((((27) * (lN (cdTo t a k))) + ((nI (t (a + k))).toInt64)) - (97)) + 1)), none, some (.int (nI (a + k)))]) hX dX7_wordOf_37 (by decide) rfl ?_
        refine g_iincN (L' := [some (.ref a3), some (.int (nI a)), some (.int (nI b)), some (.long (((((27) * (lN (cdTo t a k))) + ((nI (t (a + k))).toInt64)) - (97)) + 1)), none, some (.int (nI ((a + k) + 1)))]) hX dX7_wordOf_38 rfl (by decide) rfl ?_
        refine g_goto (tgt := 5) hX dX7_wordOf_41 (by decide) ?_
        have hkn : k < (if b - a < 10 then b - a else 10) := by split <;> omega
        exact g_fin (ih5 (by omega) ) (rfl) rfl ⟨rfl, rfl, rfl, (congrArg some (congrArg Value.long (cd_step (hl (a + k) (by omega) (by omega))))), rfl, trivial⟩
  exact g_fin (loop5 0 (by omega) ) (rfl) rfl ⟨rfl, rfl, rfl, rfl, rfl, trivial⟩
set_option maxRecDepth 100000 in
set_option maxHeartbeats 4000000 in
theorem ct_X7_five {l : Launch} {D : va_G} {a b c d : Nat} (hc : c < 256) (hd : d < 256) : Cf l D yX7_five cX7_five 6 (some .long) 0 0 [.int (nI a), .int (nI b), .int (nI c), .int (nI d)] [] (some (.long (fiveL a b c d))) [] := by
  refine Ct.ofG (by decide) (Nat.le_of_ble_eq_true rfl) ?_
  intro X hX
  have hX : CX X l D RX7 "five" cX7_five 6 (some .long) 0 0 0 0 := hX
  show G X (QF X (some (.long (fiveL a b c d))) []) [] 0 0 0 [some (.int (nI a)), some (.int (nI b)), some (.int (nI c)), some (.int (nI d)), none, none] []
  generalize hQ : QF X (some (.long (fiveL a b c d))) [] = Q
  refine g_iload_n hX dX7_five_0 rfl ?_
  refine g_bipush hX dX7_five_1 kn_b_97 ?_
  refine g_isub hX dX7_five_3 ?_
  refine g_i2l hX dX7_five_4 ?_
  refine g_lconst (v := 1) hX dX7_five_5 rfl ?_
  refine g_ladd hX dX7_five_6 ?_
  refine g_ldc2 hX dX7_five_7 kc_X7_177 ?_
  refine g_lmul hX dX7_five_10 ?_
  refine g_iload_n hX dX7_five_11 rfl ?_
  refine g_i2l hX dX7_five_12 ?_
  refine g_ladd hX dX7_five_13 ?_
  refine g_ldc2 hX dX7_five_14 kc_X7_149 ?_
  refine g_lsub hX dX7_five_17 ?_
  refine g_lconst (v := 1) hX dX7_five_18 rfl ?_
  refine g_ladd hX dX7_five_19 ?_
  refine g_lstore (L' := [some (.int (nI a)), some (.int (nI b)), some (.int (nI c)), some (.int (nI d)), some (.long ((((((((nI a) - (nI 97)).toInt64) + 1) * (27)) + ((nI b).toInt64)) - (97)) + 1)), none]) hX dX7_five_20 (by decide) rfl ?_
  refine g_iload_n hX dX7_five_22 rfl ?_
  have J23 : ∀ (v23_0 : Int64), (v23_0 = (if c = 0 then (((((((nI a) - (nI 97)).toInt64) + 1) * (27)) + ((nI b).toInt64)) - (97)) + 1 else ((((27) * ((((((((nI a) - (nI 97)).toInt64) + 1) * (27)) + ((nI b).toInt64)) - (97)) + 1)) + ((nI c).toInt64)) - (97)) + 1)) → G X Q [] 0 0 46 [some (.int (nI a)), some (.int (nI b)), some (.int (nI c)), some (.int (nI d)), some (.long ((((((((nI a) - (nI 97)).toInt64) + 1) * (27)) + ((nI b).toInt64)) - (97)) + 1)), none] [.long v23_0] := by
    intro v23_0 ev23_0
    subst ev23_0
    refine g_lstore (L' := [some (.int (nI a)), some (.int (nI b)), some (.int (nI c)), some (.int (nI d)), some (.long (if c = 0 then (((((((nI a) - (nI 97)).toInt64) + 1) * (27)) + ((nI b).toInt64)) - (97)) + 1 else ((((27) * ((((((((nI a) - (nI 97)).toInt64) + 1) * (27)) + ((nI b).toInt64)) - (97)) + 1)) + ((nI c).toInt64)) - (97)) + 1)), none]) hX dX7_five_46 (by decide) rfl ?_
    refine g_iload_n hX dX7_five_48 rfl ?_
    have J49 : ∀ (v49_0 : Int64), (v49_0 = (if d = 0 then (if c = 0 then (((((((nI a) - (nI 97)).toInt64) + 1) * (27)) + ((nI b).toInt64)) - (97)) + 1 else ((((27) * ((((((((nI a) - (nI 97)).toInt64) + 1) * (27)) + ((nI b).toInt64)) - (97)) + 1)) + ((nI c).toInt64)) - (97)) + 1) else ((((27) * (if c = 0 then (((((((nI a) - (nI 97)).toInt64) + 1) * (27)) + ((nI b).toInt64)) - (97)) + 1 else ((((27) * ((((((((nI a) - (nI 97)).toInt64) + 1) * (27)) + ((nI b).toInt64)) - (97)) + 1)) + ((nI c).toInt64)) - (97)) + 1)) + ((nI d).toInt64)) - (97)) + 1)) → G X Q [] 0 0 72 [some (.int (nI a)), some (.int (nI b)), some (.int (nI c)), some (.int (nI d)), some (.long (if c = 0 then (((((((nI a) - (nI 97)).toInt64) + 1) * (27)) + ((nI b).toInt64)) - (97)) + 1 else ((((27) * ((((((((nI a) - (nI 97)).toInt64) + 1) * (27)) + ((nI b).toInt64)) - (97)) + 1)) + ((nI c).toInt64)) - (97)) + 1)), none] [.long v49_0] := by
      intro v49_0 ev49_0
      subst ev49_0
      subst hQ
      exact g_lret hX dX7_five_72 (rfl) (rfl) rfl rfl
    refine g_ifN_ne (tgt := 57) hX dX7_five_49 (by decide) (by omega) (fun h49 => ?_) (fun h49 => ?_)
    · skip
      refine g_ldc2 hX dX7_five_57 kc_X7_177 ?_
      refine g_lload hX dX7_five_60 rfl ?_
      refine g_lmul hX dX7_five_62 ?_
      refine g_iload_n hX dX7_five_63 rfl ?_
      refine g_i2l hX dX7_five_64 ?_
      refine g_ladd hX dX7_five_65 ?_
      refine g_ldc2 hX dX7_five_66 kc_X7_149 ?_
      refine g_lsub hX dX7_five_69 ?_
      refine g_lconst (v := 1) hX dX7_five_70 rfl ?_
      refine g_ladd hX dX7_five_71 ?_
      exact g_to (J49 (((((27) * (if c = 0 then (((((((nI a) - (nI 97)).toInt64) + 1) * (27)) + ((nI b).toInt64)) - (97)) + 1 else ((((27) * ((((((((nI a) - (nI 97)).toInt64) + 1) * (27)) + ((nI b).toInt64)) - (97)) + 1)) + ((nI c).toInt64)) - (97)) + 1)) + ((nI d).toInt64)) - (97)) + 1) (if_neg h49).symm) ⟨rfl, rfl, rfl, rfl, rfl, trivial⟩
    · skip
      refine g_lload hX dX7_five_52 rfl ?_
      refine g_goto (tgt := 72) hX dX7_five_54 (by decide) ?_
      exact g_to (J49 (if c = 0 then (((((((nI a) - (nI 97)).toInt64) + 1) * (27)) + ((nI b).toInt64)) - (97)) + 1 else ((((27) * ((((((((nI a) - (nI 97)).toInt64) + 1) * (27)) + ((nI b).toInt64)) - (97)) + 1)) + ((nI c).toInt64)) - (97)) + 1) (if_pos h49).symm) ⟨rfl, rfl, rfl, rfl, rfl, trivial⟩
  refine g_ifN_ne (tgt := 31) hX dX7_five_23 (by decide) (by omega) (fun h23 => ?_) (fun h23 => ?_)
  · skip
    refine g_ldc2 hX dX7_five_31 kc_X7_177 ?_
    refine g_lload hX dX7_five_34 rfl ?_
    refine g_lmul hX dX7_five_36 ?_
    refine g_iload_n hX dX7_five_37 rfl ?_
    refine g_i2l hX dX7_five_38 ?_
    refine g_ladd hX dX7_five_39 ?_
    refine g_ldc2 hX dX7_five_40 kc_X7_149 ?_
    refine g_lsub hX dX7_five_43 ?_
    refine g_lconst (v := 1) hX dX7_five_44 rfl ?_
    refine g_ladd hX dX7_five_45 ?_
    exact g_to (J23 (((((27) * ((((((((nI a) - (nI 97)).toInt64) + 1) * (27)) + ((nI b).toInt64)) - (97)) + 1)) + ((nI c).toInt64)) - (97)) + 1) (if_neg h23).symm) ⟨rfl, rfl, rfl, rfl, rfl, trivial⟩
  · skip
    refine g_lload hX dX7_five_26 rfl ?_
    refine g_goto (tgt := 46) hX dX7_five_28 (by decide) ?_
    exact g_to (J23 ((((((((nI a) - (nI 97)).toInt64) + 1) * (27)) + ((nI b).toInt64)) - (97)) + 1) (if_pos h23).symm) ⟨rfl, rfl, rfl, rfl, rfl, trivial⟩
