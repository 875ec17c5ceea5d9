set_option maxRecDepth 100000 in
set_option maxHeartbeats 4000000 in
theorem ct_X7_letterClause {l : Launch} {D : va_G} {a0 a1 a2 a3 a4 a5 a6 a7 a8 a9 a10 uk sz wr pa ln : Nat} {kp sd fa : Int32} {t : Nat → Nat} {w : Nat → Int32} {c : Nat} (hsz : sz ≤ 150) (hpa : pa ≤ sz) (ht : ∀ k, t k < 256) (hc : c < 8) : Ct (S := Nat × Nat × Int32 × (Nat → Int32)) l D yX7_letterClause cX7_letterClause 2 none 3 70 0 0 [.ref a0, .int (nI c)] [(a0, .inr (8, [.ref a1, .int (nI uk), .int kp, .int sd, .ref a2, .ref a3, .int (nI sz), .int fa, .ref a4, .ref a5, .ref a6, .int (nI wr), .ref a7, .ref a8, .int (nI pa), .int (nI 0), .ref a9, .int (nI ln), .ref a10])), (a3, .inl (D.1 100, 150, .inl (fun k => nI (t k)))), (a1, .inl (D.1 100, 3318, .inl w))] (fun (r : Option Value) (u : Nat × Nat × Int32 × (Nat → Int32)) => match u with | (A, F, P, W) => r = none ∧ (fltP 0 fa F P A sz (qLetter t sz w c pa) (fun a => A = a.1 ∧ W = a.2)) ∧ (∀ k, 158 ≤ k → W k = w k)) (fun (u : Nat × Nat × Int32 × (Nat → Int32)) => match u with | (A, F, P, W) => ([(a0, .inr (8, [.ref a1, .int (nI uk), .int kp, .int sd, .ref a2, .ref a3, .int (nI sz), .int P, .ref a4, .ref a5, .ref a6, .int (nI wr), .ref a7, .ref a8, .int (nI A), .int (nI F), .ref a9, .int (nI ln), .ref a10])), (a3, .inl (D.1 100, 150, .inl (fun k => nI (t k)))), (a1, .inl (D.1 100, 3318, .inl W))] : va_W)) := by
  refine Ct.ofG (by decide) (Nat.le_of_ble_eq_true rfl) ?_
  intro X hX
  have hX : CX X l D RX7 "letterClause" cX7_letterClause 2 none 3 70 0 0 := hX
  show G X (QM X 0 0 (fun (r : Option Value) (u : Nat × Nat × Int32 × (Nat → Int32)) => match u with | (A, F, P, W) => r = none ∧ (fltP 0 fa F P A sz (qLetter t sz w c pa) (fun a => A = a.1 ∧ W = a.2)) ∧ (∀ k, 158 ≤ k → W k = w k)) (fun (u : Nat × Nat × Int32 × (Nat → Int32)) => match u with | (A, F, P, W) => ([(a0, .inr (8, [.ref a1, .int (nI uk), .int kp, .int sd, .ref a2, .ref a3, .int (nI sz), .int P, .ref a4, .ref a5, .ref a6, .int (nI wr), .ref a7, .ref a8, .int (nI A), .int (nI F), .ref a9, .int (nI ln), .ref a10])), (a3, .inl (D.1 100, 150, .inl (fun k => nI (t k)))), (a1, .inl (D.1 100, 3318, .inl W))] : va_W))) [(a0, .inr (8, [.ref a1, .int (nI uk), .int kp, .int sd, .ref a2, .ref a3, .int (nI sz), .int fa, .ref a4, .ref a5, .ref a6, .int (nI wr), .ref a7, .ref a8, .int (nI pa), .int (nI 0), .ref a9, .int (nI ln), .ref a10])), (a3, .inl (D.1 100, 150, .inl (fun k => nI (t k)))), (a1, .inl (D.1 100, 3318, .inl w))] 0 0 0 [some (.ref a0), some (.int (nI c))] []
  generalize hQ : QM X 0 0 (fun (r : Option Value) (u : Nat × Nat × Int32 × (Nat → Int32)) => match u with | (A, F, P, W) => r = none ∧ (fltP 0 fa F P A sz (qLetter t sz w c pa) (fun a => A = a.1 ∧ W = a.2)) ∧ (∀ k, 158 ≤ k → W k = w k)) (fun (u : Nat × Nat × Int32 × (Nat → Int32)) => match u with | (A, F, P, W) => ([(a0, .inr (8, [.ref a1, .int (nI uk), .int kp, .int sd, .ref a2, .ref a3, .int (nI sz), .int P, .ref a4, .ref a5, .ref a6, .int (nI wr), .ref a7, .ref a8, .int (nI A), .int (nI F), .ref a9, .int (nI ln), .ref a10])), (a3, .inl (D.1 100, 150, .inl (fun k => nI (t k)))), (a1, .inl (D.1 100, 3318, .inl W))] : va_W)) = Q
  refine g_aload_n hX dX7_letterClause_0 rfl ?_
  refine g_iload_n hX dX7_letterClause_1 rfl ?_
  refine g_iconst hX dX7_letterClause_2 kn_i_0 ?_
  refine g_call hX dX7_letterClause_3 cw_X7_167 (ct_X7_readEdge  (by omega) (by omega) (by omega) (by first | with_reducible assumption | assumption) (by omega) (by omega)) 0 8 [0, 1, 2] rfl rfl rfl rfl (by decide) rfl (fun ⟨_, _, _, _⟩ => rfl) ⟨by decide, by decide⟩ (Nat.le_of_ble_eq_true rfl) ⟨Nat.le_refl _, Nat.le_refl _⟩ (fun v u hp => ?_)
  obtain ⟨A3, F3, P3, W3⟩ := u
  obtain ⟨rfl, hs3, hw3⟩ := hp
  show G X Q [(a0, .inr (8, [.ref a1, .int (nI uk), .int kp, .int sd, .ref a2, .ref a3, .int (nI sz), .int P3, .ref a4, .ref a5, .ref a6, .int (nI wr), .ref a7, .ref a8, .int (nI A3), .int (nI F3), .ref a9, .int (nI ln), .ref a10])), (a3, .inl (D.1 100, 150, .inl (fun k => nI (t k)))), (a1, .inl (D.1 100, 3318, .inl W3))] 0 0 6 [some (.ref a0), some (.int (nI c))] []
  have q1 := hs3.1
  have q2 : F3 < 100 := flt_F hs3 (by decide) (fun e he => qEdge_F he)
  refine g_aload_n hX dX7_letterClause_6 rfl ?_
  refine g_bipush hX dX7_letterClause_7 kn_b_47 ?_
  refine g_call hX dX7_letterClause_9 cw_X7_170 (ct_X7_want  (by omega) (by omega) (by omega) (by first | with_reducible assumption | assumption) (by omega)) 0 8 [0, 1] rfl rfl rfl rfl (by decide) rfl (fun ⟨_, _, _⟩ => rfl) ⟨by decide, by decide⟩ (Nat.le_of_ble_eq_true rfl) ⟨Nat.le_refl _, Nat.le_refl _⟩ (fun v u hp => ?_)
  obtain ⟨A9, F9, P9⟩ := u
  obtain ⟨rfl, hs9⟩ := hp
  show G X Q [(a0, .inr (8, [.ref a1, .int (nI uk), .int kp, .int sd, .ref a2, .ref a3, .int (nI sz), .int P9, .ref a4, .ref a5, .ref a6, .int (nI wr), .ref a7, .ref a8, .int (nI A9), .int (nI F9), .ref a9, .int (nI ln), .ref a10])), (a3, .inl (D.1 100, 150, .inl (fun k => nI (t k)))), (a1, .inl (D.1 100, 3318, .inl W3))] 0 0 12 [some (.ref a0), some (.int (nI c))] []
  have q3 := hs9.1
  have q4 : F9 < 100 := flt_F hs9 q2 (fun e he => qWant_F he)
  refine g_aload_n hX dX7_letterClause_12 rfl ?_
  refine g_getf hX dX7_letterClause_13 fk_X7_138 0 rfl rfl ?_
  refine g_ifN_ne (tgt := 35) hX dX7_letterClause_16 (by decide) (by omega) (fun h16 => ?_) (fun h16 => ?_)
  · skip
    refine g_aload_n hX dX7_letterClause_35 rfl ?_
    refine g_getf hX dX7_letterClause_36 fk_X7_138 0 rfl rfl ?_
    refine g_ifN_ne (tgt := 68) hX dX7_letterClause_39 (by decide) (by omega) (fun h39 => ?_) (fun h39 => ?_)
    · skip
      subst hQ
      exact g_vretU hX dX7_letterClause_68 (A9, F9, P9, W3) (⟨rfl, lt_bad1 (lt_1 hs3 hs9) h16, fun k hk => hw3 k hk⟩) rfl (Nat.le_refl _) (Nat.le_refl _)
    · skip
      exact absurd h39 h16
  · skip
    obtain ⟨-, ep, a9, -, ea, p1, e1, e2, e3⟩ := flt_good (lt_1 hs3 hs9) h16
    subst ea
    subst F9
    subst P9
    refine g_aload_n hX dX7_letterClause_19 rfl ?_
    refine g_iload_n hX dX7_letterClause_20 rfl ?_
    refine g_iconst hX dX7_letterClause_21 kn_i_1 ?_
    refine g_call hX dX7_letterClause_22 cw_X7_167 (ct_X7_readEdge  (by omega) (by omega) (by omega) (by first | with_reducible assumption | assumption) (by omega) (by omega)) 0 8 [0, 1, 2] rfl rfl rfl rfl (by decide) rfl (fun ⟨_, _, _, _⟩ => rfl) ⟨by decide, by decide⟩ (Nat.le_of_ble_eq_true rfl) ⟨Nat.le_refl _, Nat.le_refl _⟩ (fun v u hp => ?_)
    obtain ⟨A22, F22, P22, W22⟩ := u
    obtain ⟨rfl, hs22, hw22⟩ := hp
    show G X Q [(a0, .inr (8, [.ref a1, .int (nI uk), .int kp, .int sd, .ref a2, .ref a3, .int (nI sz), .int P22, .ref a4, .ref a5, .ref a6, .int (nI wr), .ref a7, .ref a8, .int (nI A22), .int (nI F22), .ref a9, .int (nI ln), .ref a10])), (a3, .inl (D.1 100, 150, .inl (fun k => nI (t k)))), (a1, .inl (D.1 100, 3318, .inl W22))] 0 0 25 [some (.ref a0), some (.int (nI c))] []
    have q5 := hs22.1
    have q6 : F22 < 100 := flt_F hs22 (by decide) (fun e he => qEdge_F he)
    refine g_aload_n hX dX7_letterClause_25 rfl ?_
    refine g_bipush hX dX7_letterClause_26 kn_b_44 ?_
    refine g_call hX dX7_letterClause_28 cw_X7_170 (ct_X7_want  (by omega) (by omega) (by omega) (by first | with_reducible assumption | assumption) (by omega)) 0 8 [0, 1] rfl rfl rfl rfl (by decide) rfl (fun ⟨_, _, _⟩ => rfl) ⟨by decide, by decide⟩ (Nat.le_of_ble_eq_true rfl) ⟨Nat.le_refl _, Nat.le_refl _⟩ (fun v u hp => ?_)
    obtain ⟨A28, F28, P28⟩ := u
    obtain ⟨rfl, hs28⟩ := hp
    show G X Q [(a0, .inr (8, [.ref a1, .int (nI uk), .int kp, .int sd, .ref a2, .ref a3, .int (nI sz), .int P28, .ref a4, .ref a5, .ref a6, .int (nI wr), .ref a7, .ref a8, .int (nI A28), .int (nI F28), .ref a9, .int (nI ln), .ref a10])), (a3, .inl (D.1 100, 150, .inl (fun k => nI (t k)))), (a1, .inl (D.1 100, 3318, .inl W22))] 0 0 31 [some (.ref a0), some (.int (nI c))] []
    have q7 := hs28.1
    have q8 : F28 < 100 := flt_F hs28 q6 (fun e he => qWant_F he)
    refine g_aload_n hX dX7_letterClause_31 rfl ?_
    refine g_callFv (ws' := [(a0, .inr (8, [.ref a1, .int (nI uk), .int kp, .int sd, .ref a2, .ref a3, .int (nI sz), .int P28, .ref a4, .ref a5, .ref a6, .int (nI wr), .ref a7, .ref a8, .int (nI (sk t sz A28)), .int (nI F28), .ref a9, .int (nI ln), .ref a10])), (a3, .inl (D.1 100, 150, .inl (fun k => nI (t k)))), (a1, .inl (D.1 100, 3318, .inl W22))]) hX dX7_letterClause_32 cw_X7_153 (ct_X7_skip  (by omega) (by omega) (by omega) (by first | with_reducible assumption | assumption)) 0 8 [0, 1] rfl rfl rfl rfl (by decide) rfl rfl ⟨by decide, by decide⟩ (Nat.le_of_ble_eq_true rfl) (Nat.le_refl _) (Nat.le_refl _) rfl ?_
    have q9 := sk_le (t := t) hs28.1
    refine g_aload_n hX dX7_letterClause_35 rfl ?_
    refine g_getf hX dX7_letterClause_36 fk_X7_138 0 rfl rfl ?_
    refine g_ifN_ne (tgt := 68) hX dX7_letterClause_39 (by decide) (by omega) (fun h39 => ?_) (fun h39 => ?_)
    · skip
      subst hQ
      exact g_vretU hX dX7_letterClause_68 (sk t sz A28, F28, P28, W22) (⟨rfl, (lt_end e1 e2 e3 (lt_2 hs22 hs28)).1 h39 _ (sk_le hs28.1), fun k hk => (hw22 k hk).trans (hw3 k hk)⟩) rfl (Nat.le_refl _) (Nat.le_refl _)
    · skip
      obtain ⟨-, ep28, p4, -, -, p3, e6, e7, e8⟩ := flt_good (lt_2 hs22 hs28) h39
      have hw0 : W22 0 = w 0 := by rw [e8, rEdge_0, e3, rEdge_0]
      subst F28
      subst P28
      refine g_aload_n hX dX7_letterClause_42 rfl ?_
      refine g_getf hX dX7_letterClause_43 fk_X7_7 0 rfl rfl ?_
      refine g_bipush hX dX7_letterClause_46 kn_b_86 ?_
      refine g_iload_n hX dX7_letterClause_48 rfl ?_
      refine g_iaddN hX dX7_letterClause_49 ?_
      refine g_aload_n hX dX7_letterClause_50 rfl ?_
      refine g_iconst hX dX7_letterClause_51 kn_i_1 ?_
      refine g_call hX dX7_letterClause_52 cw_X7_161 (ct_X7_figure  (by omega) (by omega) (by omega) (by first | with_reducible assumption | assumption) (by omega)) 0 8 [0, 1] rfl rfl rfl rfl (by decide) rfl (fun ⟨_, _, _, _⟩ => rfl) ⟨by decide, by decide⟩ (Nat.le_of_ble_eq_true rfl) ⟨Nat.le_refl _, Nat.le_refl _⟩ (fun v u hp => ?_)
      obtain ⟨V52, A52, F52, P52⟩ := u
      obtain ⟨rfl, hs52, hv52⟩ := hp
      show G X Q [(a0, .inr (8, [.ref a1, .int (nI uk), .int kp, .int sd, .ref a2, .ref a3, .int (nI sz), .int P52, .ref a4, .ref a5, .ref a6, .int (nI wr), .ref a7, .ref a8, .int (nI A52), .int (nI F52), .ref a9, .int (nI ln), .ref a10])), (a3, .inl (D.1 100, 150, .inl (fun k => nI (t k)))), (a1, .inl (D.1 100, 3318, .inl W22))] 0 0 55 [some (.ref a0), some (.int (nI c))] [.int (nI V52), .int (nI (86 + c)), .ref a1]
      refine g_iast (ws' := [(a0, .inr (8, [.ref a1, .int (nI uk), .int kp, .int sd, .ref a2, .ref a3, .int (nI sz), .int P52, .ref a4, .ref a5, .ref a6, .int (nI wr), .ref a7, .ref a8, .int (nI A52), .int (nI F52), .ref a9, .int (nI ln), .ref a10])), (a3, .inl (D.1 100, 150, .inl (fun k => nI (t k)))), (a1, .inl (D.1 100, 3318, .inl (upd W22 (86 + c) (nI V52))))]) hX dX7_letterClause_55 2 rfl (by decide) (by omega) rfl ?_
      refine g_aload_n hX dX7_letterClause_56 rfl ?_
      refine g_getf hX dX7_letterClause_57 fk_X7_7 0 rfl rfl ?_
      refine g_iconst hX dX7_letterClause_60 kn_i_0 ?_
      refine g_dup2 hX dX7_letterClause_61 rfl rfl ?_
      refine g_iald hX dX7_letterClause_62 2 rfl (by decide) (by omega) ?_
      refine g_iconst hX dX7_letterClause_63 kn_i_1 ?_
      refine g_iload_n hX dX7_letterClause_64 rfl ?_
      refine g_ishl hX dX7_letterClause_65 ?_
      refine g_ior hX dX7_letterClause_66 ?_
      refine g_iast (ws' := [(a0, .inr (8, [.ref a1, .int (nI uk), .int kp, .int sd, .ref a2, .ref a3, .int (nI sz), .int P52, .ref a4, .ref a5, .ref a6, .int (nI wr), .ref a7, .ref a8, .int (nI A52), .int (nI F52), .ref a9, .int (nI ln), .ref a10])), (a3, .inl (D.1 100, 150, .inl (fun k => nI (t k)))), (a1, .inl (D.1 100, 3318, .inl (upd (upd W22 (86 + c) (nI V52)) 0 (((upd W22 (86 + c) (nI V52)) 0) ||| ((nI 1) <<< ((nI c) &&& 31))))))]) hX dX7_letterClause_67 2 rfl (by decide) (by omega) rfl ?_
      subst hQ
      exact g_vretU hX dX7_letterClause_68 (A52, F52, P52, upd (upd W22 (86 + c) (nI V52)) 0 (((upd W22 (86 + c) (nI V52)) 0) ||| ((nI 1) <<< ((nI c) &&& 31)))) (⟨rfl, ((lt_end (ok := fun a => A52 = a.1 ∧ _ = a.2) e1 e2 e3 (lt_2 hs22 hs28)).2 rfl).2 _ _ _ _ hs52 _ rfl hw0 (fun a ha => ha), fun k hk => by rw [pk_un (by omega), pk_un (by omega)]; exact (hw22 k hk).trans (hw3 k hk)⟩) rfl (Nat.le_refl _) (Nat.le_refl _)
