set_option maxRecDepth 100000 in
set_option maxHeartbeats 4000000 in
theorem ct_X7_byClause {l : Launch} {D : va_G} {a0 a1 a2 a3 a4 a5 a6 a7 a8 a9 a10 uk sz wr pa ln : Nat} {kp sd fa : Int32} {t : Nat → Nat} {w : Nat → Int32} (hsz : sz ≤ 150) (hpa : pa ≤ sz) (ht : ∀ k, t k < 256) : Ct (S := Nat × Nat × Int32 × (Nat → Int32)) l D yX7_byClause cX7_byClause 7 none 2 45 0 0 [.ref a0] [(a0, .inr (8, [.ref a1, .int (nI uk), .int kp, .int sd, .ref a2, .ref a3, .int (nI sz), .int fa, .ref a4, .ref a5, .ref a6, .int (nI wr), .ref a7, .ref a8, .int (nI pa), .int (nI 0), .ref a9, .int (nI ln), .ref a10])), (a3, .inl (D.1 100, 150, .inl (fun k => nI (t k)))), (a1, .inl (D.1 100, 3318, .inl w))] (fun (r : Option Value) (u : Nat × Nat × Int32 × (Nat → Int32)) => match u with | (A, F, P, W) => r = none ∧ (fltP 0 fa F P A sz (qBy t sz w pa) (fun a => A = a.1 ∧ W = a.2)) ∧ (∀ k, 158 ≤ k → W k = w k)) (fun (u : Nat × Nat × Int32 × (Nat → Int32)) => match u with | (A, F, P, W) => ([(a0, .inr (8, [.ref a1, .int (nI uk), .int kp, .int sd, .ref a2, .ref a3, .int (nI sz), .int P, .ref a4, .ref a5, .ref a6, .int (nI wr), .ref a7, .ref a8, .int (nI A), .int (nI F), .ref a9, .int (nI ln), .ref a10])), (a3, .inl (D.1 100, 150, .inl (fun k => nI (t k)))), (a1, .inl (D.1 100, 3318, .inl W))] : va_W)) := by
  refine Ct.ofG (by decide) (Nat.le_of_ble_eq_true rfl) ?_
  intro X hX
  have hX : CX X l D RX7 "byClause" cX7_byClause 7 none 2 45 0 0 := hX
  show G X (QM X 0 0 (fun (r : Option Value) (u : Nat × Nat × Int32 × (Nat → Int32)) => match u with | (A, F, P, W) => r = none ∧ (fltP 0 fa F P A sz (qBy t sz w pa) (fun a => A = a.1 ∧ W = a.2)) ∧ (∀ k, 158 ≤ k → W k = w k)) (fun (u : Nat × Nat × Int32 × (Nat → Int32)) => match u with | (A, F, P, W) => ([(a0, .inr (8, [.ref a1, .int (nI uk), .int kp, .int sd, .ref a2, .ref a3, .int (nI sz), .int P, .ref a4, .ref a5, .ref a6, .int (nI wr), .ref a7, .ref a8, .int (nI A), .int (nI F), .ref a9, .int (nI ln), .ref a10])), (a3, .inl (D.1 100, 150, .inl (fun k => nI (t k)))), (a1, .inl (D.1 100, 3318, .inl W))] : va_W))) [(a0, .inr (8, [.ref a1, .int (nI uk), .int kp, .int sd, .ref a2, .ref a3, .int (nI sz), .int fa, .ref a4, .ref a5, .ref a6, .int (nI wr), .ref a7, .ref a8, .int (nI pa), .int (nI 0), .ref a9, .int (nI ln), .ref a10])), (a3, .inl (D.1 100, 150, .inl (fun k => nI (t k)))), (a1, .inl (D.1 100, 3318, .inl w))] 0 0 0 [some (.ref a0), none, none, none, none, none, none] []
  generalize hQ : QM X 0 0 (fun (r : Option Value) (u : Nat × Nat × Int32 × (Nat → Int32)) => match u with | (A, F, P, W) => r = none ∧ (fltP 0 fa F P A sz (qBy t sz w pa) (fun a => A = a.1 ∧ W = a.2)) ∧ (∀ k, 158 ≤ k → W k = w k)) (fun (u : Nat × Nat × Int32 × (Nat → Int32)) => match u with | (A, F, P, W) => ([(a0, .inr (8, [.ref a1, .int (nI uk), .int kp, .int sd, .ref a2, .ref a3, .int (nI sz), .int P, .ref a4, .ref a5, .ref a6, .int (nI wr), .ref a7, .ref a8, .int (nI A), .int (nI F), .ref a9, .int (nI ln), .ref a10])), (a3, .inl (D.1 100, 150, .inl (fun k => nI (t k)))), (a1, .inl (D.1 100, 3318, .inl W))] : va_W)) = Q
  refine g_aload_n hX dX7_byClause_0 rfl ?_
  refine g_callFv (ws' := [(a0, .inr (8, [.ref a1, .int (nI uk), .int kp, .int sd, .ref a2, .ref a3, .int (nI sz), .int fa, .ref a4, .ref a5, .ref a6, .int (nI wr), .ref a7, .ref a8, .int (nI (sk t sz pa)), .int (nI 0), .ref a9, .int (nI ln), .ref a10])), (a3, .inl (D.1 100, 150, .inl (fun k => nI (t k)))), (a1, .inl (D.1 100, 3318, .inl w))]) hX dX7_byClause_1 cw_X7_153 (ct_X7_skip  (by omega) (by omega) (by omega) (by first | with_reducible assumption | assumption)) 0 8 [0, 1] rfl rfl rfl rfl (by decide) rfl rfl ⟨by decide, by decide⟩ (Nat.le_of_ble_eq_true rfl) (Nat.le_refl _) (Nat.le_refl _) rfl ?_
  have hb0 := sk_le (t := t) hpa
  refine g_aload_n hX dX7_byClause_4 rfl ?_
  refine g_getf hX dX7_byClause_5 fk_X7_132 0 rfl rfl ?_
  refine g_istore_n (L' := [some (.ref a0), some (.int (nI (sk t sz pa))), none, none, none, none, none]) hX dX7_byClause_8 (by decide) rfl ?_
  have loop9 : ∀ p : Nat, p ≤ sz → (sm t sz (sk t sz pa) = sm t sz p) → (sk t sz pa ≤ p) → G X Q [(a0, .inr (8, [.ref a1, .int (nI uk), .int kp, .int sd, .ref a2, .ref a3, .int (nI sz), .int fa, .ref a4, .ref a5, .ref a6, .int (nI wr), .ref a7, .ref a8, .int (nI p), .int (nI 0), .ref a9, .int (nI ln), .ref a10])), (a3, .inl (D.1 100, 150, .inl (fun k => nI (t k)))), (a1, .inl (D.1 100, 3318, .inl w))] 0 0 9 [some (.ref a0), some (.int (nI (sk t sz pa))), none, none, none, none, none] [] := by
    refine loopN sz (fun p hh9 ih9 => ?_)
    intro hr hge
    refine g_aload_n hX dX7_byClause_9 rfl ?_
    refine g_callRi hX dX7_byClause_10 cw_X7_141 (ct_X7_here  (by omega) (by omega) (by omega) (by first | with_reducible assumption | assumption)) 0 8 [0, 1] rfl rfl rfl rfl (by decide) rfl ⟨by decide, by decide⟩ (Nat.le_of_ble_eq_true rfl) (Nat.le_refl _) (Nat.le_refl _) ?_
    refine g_callSRi hX dX7_byClause_13 cw_X7_179 (ct_X7_isSmall  (smallO_here ht)) [] rfl rfl (by decide) rfl ⟨by decide, by decide⟩ (Nat.le_of_ble_eq_true rfl) (Nat.le_refl _) (Nat.le_refl _) ?_
    refine g_ifb_eq (tgt := 32) hX dX7_byClause_16 (by decide) (fun h16 => ?_) (fun h16 => ?_)
    · skip
      have hsm := h16
      obtain rfl : p = sm t sz (sk t sz pa) := by rw [hr, sm_stop hsm]
      have hlr := sm_rng (t := t) (sz := sz) (p := sk t sz pa)
      refine g_aload_n hX dX7_byClause_32 rfl ?_
      refine g_getf hX dX7_byClause_33 fk_X7_16 0 rfl rfl ?_
      refine g_iload_n hX dX7_byClause_36 rfl ?_
      refine g_aload_n hX dX7_byClause_37 rfl ?_
      refine g_getf hX dX7_byClause_38 fk_X7_132 0 rfl rfl ?_
      refine g_callSRl hX dX7_byClause_41 cw_X7_182 (ct_X7_wordOf  (by omega) (sm_ge) hlr) [1] rfl rfl (by decide) rfl ⟨by decide, by decide⟩ (Nat.le_of_ble_eq_true rfl) (Nat.le_refl _) (Nat.le_refl _) ?_
      refine g_lstore_n (L' := [some (.ref a0), some (.int (nI (sk t sz pa))), some (.long (lN (wcd t (sk t sz pa) (sm t sz (sk t sz pa))))), none, none, none, none]) hX dX7_byClause_44 (by decide) rfl ?_
      refine g_bipush hX dX7_byClause_45 kn_b_115 ?_
      refine g_bipush hX dX7_byClause_47 kn_b_113 ?_
      refine g_bipush hX dX7_byClause_49 kn_b_117 ?_
      refine g_bipush hX dX7_byClause_51 kn_b_97 ?_
      refine g_callSRl hX dX7_byClause_53 cw_X7_186 (ct_X7_five  (by omega) (by omega)) [] rfl rfl (by decide) rfl ⟨by decide, by decide⟩ (Nat.le_of_ble_eq_true rfl) (Nat.le_refl _) (Nat.le_refl _) ?_
      refine g_ldc2 hX dX7_byClause_56 kc_X7_177 ?_
      refine g_lmul hX dX7_byClause_59 ?_
      refine g_ldc2 hX dX7_byClause_60 kc_X7_190 ?_
      refine g_ladd hX dX7_byClause_63 ?_
      refine g_ldc2 hX dX7_byClause_64 kc_X7_149 ?_
      refine g_lsub hX dX7_byClause_67 ?_
      refine g_lconst (v := 1) hX dX7_byClause_68 rfl ?_
      refine g_ladd hX dX7_byClause_69 ?_
      refine g_ldc2 hX dX7_byClause_70 kc_X7_177 ?_
      refine g_lmul hX dX7_byClause_73 ?_
      refine g_ldc2 hX dX7_byClause_74 kc_X7_192 ?_
      refine g_ladd hX dX7_byClause_77 ?_
      refine g_ldc2 hX dX7_byClause_78 kc_X7_149 ?_
      refine g_lsub hX dX7_byClause_81 ?_
      refine g_lconst (v := 1) hX dX7_byClause_82 rfl ?_
      refine g_ladd hX dX7_byClause_83 ?_
      refine g_lstore (L' := [some (.ref a0), some (.int (nI (sk t sz pa))), some (.long (lN (wcd t (sk t sz pa) (sm t sz (sk t sz pa))))), none, some (.long (((((((((fiveL 115 113 117 97) * (27)) + (114)) - (97)) + 1) * (27)) + (101)) - (97)) + 1)), none, none]) hX dX7_byClause_84 (by decide) rfl ?_
      refine g_lload_n hX dX7_byClause_86 rfl ?_
      refine g_bipush hX dX7_byClause_87 kn_b_115 ?_
      refine g_bipush hX dX7_byClause_89 kn_b_117 ?_
      refine g_bipush hX dX7_byClause_91 kn_b_109 ?_
      refine g_iconst hX dX7_byClause_93 kn_i_0 ?_
      refine g_callSRl hX dX7_byClause_94 cw_X7_186 (ct_X7_five  (by omega) (by omega)) [] rfl rfl (by decide) rfl ⟨by decide, by decide⟩ (Nat.le_of_ble_eq_true rfl) (Nat.le_refl _) (Nat.le_refl _) ?_
      refine g_lcmp hX dX7_byClause_97 ?_
      refine g_if_ne (tgt := 105) hX dX7_byClause_98 (by decide) (fun h98 => ?_) (fun h98 => ?_)
      · skip
        refine g_lload_n hX dX7_byClause_105 rfl ?_
        refine g_bipush hX dX7_byClause_106 kn_b_109 ?_
        refine g_bipush hX dX7_byClause_108 kn_b_111 ?_
        refine g_bipush hX dX7_byClause_110 kn_b_115 ?_
        refine g_bipush hX dX7_byClause_112 kn_b_116 ?_
        refine g_callSRl hX dX7_byClause_114 cw_X7_186 (ct_X7_five  (by omega) (by omega)) [] rfl rfl (by decide) rfl ⟨by decide, by decide⟩ (Nat.le_of_ble_eq_true rfl) (Nat.le_refl _) (Nat.le_refl _) ?_
        refine g_lcmp hX dX7_byClause_117 ?_
        refine g_if_ne (tgt := 125) hX dX7_byClause_118 (by decide) (fun h118 => ?_) (fun h118 => ?_)
        · skip
          refine g_lload_n hX dX7_byClause_125 rfl ?_
          refine g_lload hX dX7_byClause_126 rfl ?_
          refine g_lcmp hX dX7_byClause_128 ?_
          refine g_if_ne (tgt := 136) hX dX7_byClause_129 (by decide) (fun h129 => ?_) (fun h129 => ?_)
          · skip
            refine g_iconst hX dX7_byClause_136 kn_i_m1 ?_
            refine g_istore (L' := [some (.ref a0), some (.int (nI (sk t sz pa))), some (.long (lN (wcd t (sk t sz pa) (sm t sz (sk t sz pa))))), none, some (.long (((((((((fiveL 115 113 117 97) * (27)) + (114)) - (97)) + 1) * (27)) + (101)) - (97)) + 1)), none, some (.int (-1))]) hX dX7_byClause_137 (by decide) rfl ?_
            refine g_iload hX dX7_byClause_139 rfl ?_
            refine g_if_ge (tgt := 153) hX dX7_byClause_141 (by decide) (fun h => absurd h (by decide)) (fun _ => ?_)
            refine g_aload_n hX dX7_byClause_144 rfl ?_
            refine g_iconst hX dX7_byClause_145 kn_i_1 ?_
            refine g_iload_n hX dX7_byClause_146 rfl ?_
            refine g_call hX dX7_byClause_147 cw_X7_156 (ct_X7_fail  (by omega)) 0 8 [0] rfl rfl rfl rfl (by decide) rfl (fun ⟨_, _⟩ => rfl) ⟨by decide, by decide⟩ (Nat.le_of_ble_eq_true rfl) ⟨Nat.le_refl _, Nat.le_refl _⟩ (fun v u hp => ?_)
            obtain ⟨F147, P147⟩ := u
            obtain ⟨rfl, hs147⟩ := hp
            show G X Q [(a0, .inr (8, [.ref a1, .int (nI uk), .int kp, .int sd, .ref a2, .ref a3, .int (nI sz), .int P147, .ref a4, .ref a5, .ref a6, .int (nI wr), .ref a7, .ref a8, .int (nI (sm t sz (sk t sz pa))), .int (nI F147), .ref a9, .int (nI ln), .ref a10])), (a3, .inl (D.1 100, 150, .inl (fun k => nI (t k)))), (a1, .inl (D.1 100, 3318, .inl w))] 0 0 150 [some (.ref a0), some (.int (nI (sk t sz pa))), some (.long (lN (wcd t (sk t sz pa) (sm t sz (sk t sz pa))))), none, some (.long (((((((((fiveL 115 113 117 97) * (27)) + (114)) - (97)) + 1) * (27)) + (101)) - (97)) + 1)), none, some (.int (-1))] []
            refine g_goto (tgt := 161) hX dX7_byClause_150 (by decide) ?_
            subst hQ
            exact g_vretU hX dX7_byClause_161 ((sm t sz (sk t sz pa)), F147, P147, w) (⟨rfl, flt_flt (by omega) rfl (n := 1) (p := sk t sz pa) (by unfold qBy; rw [if_neg (fun q => h98 ((w_sum hlr).mpr q)), if_neg (fun q => h118 ((w_most hlr).mpr q)), if_neg (fun q => h129 ((w_square hlr).mpr q))]) (hs147.1 rfl).1 (hs147.1 rfl).2 (by decide), fun _ _ => rfl⟩) rfl (Nat.le_refl _) (Nat.le_refl _)
          · skip
            refine g_iconst hX dX7_byClause_132 kn_i_2 ?_
            refine g_goto (tgt := 137) hX dX7_byClause_133 (by decide) ?_
            refine g_istore (L' := [some (.ref a0), some (.int (nI (sk t sz pa))), some (.long (lN (wcd t (sk t sz pa) (sm t sz (sk t sz pa))))), none, some (.long (((((((((fiveL 115 113 117 97) * (27)) + (114)) - (97)) + 1) * (27)) + (101)) - (97)) + 1)), none, some (.int (nI 2))]) hX dX7_byClause_137 (by decide) rfl ?_
            refine g_iload hX dX7_byClause_139 rfl ?_
            refine g_if_ge (tgt := 153) hX dX7_byClause_141 (by decide) (fun _ => ?_) (fun h => absurd (by decide) h)
            refine g_aload_n hX dX7_byClause_153 rfl ?_
            refine g_getf hX dX7_byClause_154 fk_X7_7 0 rfl rfl ?_
            refine g_iconst hX dX7_byClause_157 kn_i_5 ?_
            refine g_iload hX dX7_byClause_158 rfl ?_
            refine g_iast (ws' := [(a0, .inr (8, [.ref a1, .int (nI uk), .int kp, .int sd, .ref a2, .ref a3, .int (nI sz), .int fa, .ref a4, .ref a5, .ref a6, .int (nI wr), .ref a7, .ref a8, .int (nI (sm t sz (sk t sz pa))), .int (nI 0), .ref a9, .int (nI ln), .ref a10])), (a3, .inl (D.1 100, 150, .inl (fun k => nI (t k)))), (a1, .inl (D.1 100, 3318, .inl (upd w 5 (nI 2))))]) hX dX7_byClause_160 2 rfl (by decide) (by omega) rfl ?_
            subst hQ
            exact g_vretU hX dX7_byClause_161 ((sm t sz (sk t sz pa)), 0, fa, upd w 5 (nI 2)) (⟨rfl, flt_ok (by omega) rfl rfl rfl (a := (sm t sz (sk t sz pa), upd w 5 (nI 2))) (by unfold qBy; rw [if_neg (fun q => h98 ((w_sum hlr).mpr q)), if_neg (fun q => h118 ((w_most hlr).mpr q)), if_pos ((w_square hlr).mp h129)]) ⟨rfl, rfl⟩, fun k hk => pk_un (by omega)⟩) rfl (Nat.le_refl _) (Nat.le_refl _)
        · skip
          refine g_iconst hX dX7_byClause_121 kn_i_1 ?_
          refine g_goto (tgt := 137) hX dX7_byClause_122 (by decide) ?_
          refine g_istore (L' := [some (.ref a0), some (.int (nI (sk t sz pa))), some (.long (lN (wcd t (sk t sz pa) (sm t sz (sk t sz pa))))), none, some (.long (((((((((fiveL 115 113 117 97) * (27)) + (114)) - (97)) + 1) * (27)) + (101)) - (97)) + 1)), none, some (.int (nI 1))]) hX dX7_byClause_137 (by decide) rfl ?_
          refine g_iload hX dX7_byClause_139 rfl ?_
          refine g_if_ge (tgt := 153) hX dX7_byClause_141 (by decide) (fun _ => ?_) (fun h => absurd (by decide) h)
          refine g_aload_n hX dX7_byClause_153 rfl ?_
          refine g_getf hX dX7_byClause_154 fk_X7_7 0 rfl rfl ?_
          refine g_iconst hX dX7_byClause_157 kn_i_5 ?_
          refine g_iload hX dX7_byClause_158 rfl ?_
          refine g_iast (ws' := [(a0, .inr (8, [.ref a1, .int (nI uk), .int kp, .int sd, .ref a2, .ref a3, .int (nI sz), .int fa, .ref a4, .ref a5, .ref a6, .int (nI wr), .ref a7, .ref a8, .int (nI (sm t sz (sk t sz pa))), .int (nI 0), .ref a9, .int (nI ln), .ref a10])), (a3, .inl (D.1 100, 150, .inl (fun k => nI (t k)))), (a1, .inl (D.1 100, 3318, .inl (upd w 5 (nI 1))))]) hX dX7_byClause_160 2 rfl (by decide) (by omega) rfl ?_
          subst hQ
          exact g_vretU hX dX7_byClause_161 ((sm t sz (sk t sz pa)), 0, fa, upd w 5 (nI 1)) (⟨rfl, flt_ok (by omega) rfl rfl rfl (a := (sm t sz (sk t sz pa), upd w 5 (nI 1))) (by unfold qBy; rw [if_neg (fun q => h98 ((w_sum hlr).mpr q)), if_pos ((w_most hlr).mp h118)]) ⟨rfl, rfl⟩, fun k hk => pk_un (by omega)⟩) rfl (Nat.le_refl _) (Nat.le_refl _)
      · skip
        refine g_iconst hX dX7_byClause_101 kn_i_0 ?_
        refine g_goto (tgt := 137) hX dX7_byClause_102 (by decide) ?_
        refine g_istore (L' := [some (.ref a0), some (.int (nI (sk t sz pa))), some (.long (lN (wcd t (sk t sz pa) (sm t sz (sk t sz pa))))), none, some (.long (((((((((fiveL 115 113 117 97) * (27)) + (114)) - (97)) + 1) * (27)) + (101)) - (97)) + 1)), none, some (.int (nI 0))]) hX dX7_byClause_137 (by decide) rfl ?_
        refine g_iload hX dX7_byClause_139 rfl ?_
        refine g_if_ge (tgt := 153) hX dX7_byClause_141 (by decide) (fun _ => ?_) (fun h => absurd (by decide) h)
        refine g_aload_n hX dX7_byClause_153 rfl ?_
        refine g_getf hX dX7_byClause_154 fk_X7_7 0 rfl rfl ?_
        refine g_iconst hX dX7_byClause_157 kn_i_5 ?_
        refine g_iload hX dX7_byClause_158 rfl ?_
        refine g_iast (ws' := [(a0, .inr (8, [.ref a1, .int (nI uk), .int kp, .int sd, .ref a2, .ref a3, .int (nI sz), .int fa, .ref a4, .ref a5, .ref a6, .int (nI wr), .ref a7, .ref a8, .int (nI (sm t sz (sk t sz pa))), .int (nI 0), .ref a9, .int (nI ln), .ref a10])), (a3, .inl (D.1 100, 150, .inl (fun k => nI (t k)))), (a1, .inl (D.1 100, 3318, .inl (upd w 5 (nI 0))))]) hX dX7_byClause_160 2 rfl (by decide) (by omega) rfl ?_
        subst hQ
        exact g_vretU hX dX7_byClause_161 ((sm t sz (sk t sz pa)), 0, fa, upd w 5 (nI 0)) (⟨rfl, flt_ok (by omega) rfl rfl rfl (a := (sm t sz (sk t sz pa), upd w 5 (nI 0))) (by unfold qBy; rw [if_pos ((w_sum hlr).mp h98)]) ⟨rfl, rfl⟩, fun k hk => pk_un (by omega)⟩) rfl (Nat.le_refl _) (Nat.le_refl _)
    · skip
      have hsm := h16
      have hps := (smlO_in hsm).1
      refine g_aload_n hX dX7_byClause_19 rfl ?_
      refine g_dup hX dX7_byClause_20 rfl ?_
      refine g_getf hX dX7_byClause_21 fk_X7_132 0 rfl rfl ?_
      refine g_iconst hX dX7_byClause_24 kn_i_1 ?_
      refine g_iaddN hX dX7_byClause_25 ?_
      refine g_puti (ws' := [(a0, .inr (8, [.ref a1, .int (nI uk), .int kp, .int sd, .ref a2, .ref a3, .int (nI sz), .int fa, .ref a4, .ref a5, .ref a6, .int (nI wr), .ref a7, .ref a8, .int (nI (p + 1)), .int (nI 0), .ref a9, .int (nI ln), .ref a10])), (a3, .inl (D.1 100, 150, .inl (fun k => nI (t k)))), (a1, .inl (D.1 100, 3318, .inl w))]) hX dX7_byClause_26 fp_X7_132 0 rfl (Nat.le_of_ble_eq_true rfl) rfl ?_
      refine g_goto (tgt := 9) hX dX7_byClause_29 (by decide) ?_
      exact g_fin (ih9 (by omega) (hr.trans (sm_step hsm)) (by omega)) (rfl) rfl ⟨rfl, rfl, trivial⟩
  exact g_fin (loop9 (sk t sz pa) (by omega) rfl (Nat.le_refl _)) (rfl) rfl ⟨rfl, rfl, trivial⟩
set_option maxRecDepth 100000 in
set_option maxHeartbeats 4000000 in
theorem ct_X7_termClause {l : Launch} {D : va_G} {a0 a1 a2 a3 a4 a5 a6 a7 a8 a9 a10 uk sz wr pa ln : Nat} {kp sd fa : Int32} {t : Nat → Nat} {w : Nat → Int32} {fr : Nat} (hsz : sz ≤ 150) (hpa : pa ≤ sz) (ht : ∀ k, t k < 256) (hlr : ∀ k, fr ≤ k → k < pa → 97 ≤ t k ∧ t k ≤ 122) : Ct (S := Nat × Nat × Int32 × (Nat → Int32)) l D yX7_termClause cX7_termClause 4 none 3 71 0 0 [.ref a0, .long (lN (wcd t fr pa)), .int (nI fr)] [(a0, .inr (8, [.ref a1, .int (nI uk), .int kp, .int sd, .ref a2, .ref a3, .int (nI sz), .int fa, .ref a4, .ref a5, .ref a6, .int (nI wr), .ref a7, .ref a8, .int (nI pa), .int (nI 0), .ref a9, .int (nI ln), .ref a10])), (a3, .inl (D.1 100, 150, .inl (fun k => nI (t k)))), (a1, .inl (D.1 100, 3318, .inl w))] (fun (r : Option Value) (u : Nat × Nat × Int32 × (Nat → Int32)) => match u with | (A, F, P, W) => r = none ∧ (fltP 0 fa F P A sz (qTerm t sz w fr pa) (fun a => A = a.1 ∧ W = a.2)) ∧ (∀ k, 158 ≤ k → W k = w k)) (fun (u : Nat × Nat × Int32 × (Nat → Int32)) => match u with | (A, F, P, W) => ([(a0, .inr (8, [.ref a1, .int (nI uk), .int kp, .int sd, .ref a2, .ref a3, .int (nI sz), .int P, .ref a4, .ref a5, .ref a6, .int (nI wr), .ref a7, .ref a8, .int (nI A), .int (nI F), .ref a9, .int (nI ln), .ref a10])), (a3, .inl (D.1 100, 150, .inl (fun k => nI (t k)))), (a1, .inl (D.1 100, 3318, .inl W))] : va_W)) := by
  refine Ct.ofG (by decide) (Nat.le_of_ble_eq_true rfl) ?_
  intro X hX
  have hX : CX X l D RX7 "termClause" cX7_termClause 4 none 3 71 0 0 := hX
  show G X (QM X 0 0 (fun (r : Option Value) (u : Nat × Nat × Int32 × (Nat → Int32)) => match u with | (A, F, P, W) => r = none ∧ (fltP 0 fa F P A sz (qTerm t sz w fr pa) (fun a => A = a.1 ∧ W = a.2)) ∧ (∀ k, 158 ≤ k → W k = w k)) (fun (u : Nat × Nat × Int32 × (Nat → Int32)) => match u with | (A, F, P, W) => ([(a0, .inr (8, [.ref a1, .int (nI uk), .int kp, .int sd, .ref a2, .ref a3, .int (nI sz), .int P, .ref a4, .ref a5, .ref a6, .int (nI wr), .ref a7, .ref a8, .int (nI A), .int (nI F), .ref a9, .int (nI ln), .ref a10])), (a3, .inl (D.1 100, 150, .inl (fun k => nI (t k)))), (a1, .inl (D.1 100, 3318, .inl W))] : va_W))) [(a0, .inr (8, [.ref a1, .int (nI uk), .int kp, .int sd, .ref a2, .ref a3, .int (nI sz), .int fa, .ref a4, .ref a5, .ref a6, .int (nI wr), .ref a7, .ref a8, .int (nI pa), .int (nI 0), .ref a9, .int (nI ln), .ref a10])), (a3, .inl (D.1 100, 150, .inl (fun k => nI (t k)))), (a1, .inl (D.1 100, 3318, .inl w))] 0 0 0 [some (.ref a0), some (.long (lN (wcd t fr pa))), none, some (.int (nI fr))] []
  generalize hQ : QM X 0 0 (fun (r : Option Value) (u : Nat × Nat × Int32 × (Nat → Int32)) => match u with | (A, F, P, W) => r = none ∧ (fltP 0 fa F P A sz (qTerm t sz w fr pa) (fun a => A = a.1 ∧ W = a.2)) ∧ (∀ k, 158 ≤ k → W k = w k)) (fun (u : Nat × Nat × Int32 × (Nat → Int32)) => match u with | (A, F, P, W) => ([(a0, .inr (8, [.ref a1, .int (nI uk), .int kp, .int sd, .ref a2, .ref a3, .int (nI sz), .int P, .ref a4, .ref a5, .ref a6, .int (nI wr), .ref a7, .ref a8, .int (nI A), .int (nI F), .ref a9, .int (nI ln), .ref a10])), (a3, .inl (D.1 100, 150, .inl (fun k => nI (t k)))), (a1, .inl (D.1 100, 3318, .inl W))] : va_W)) = Q
  refine g_lload_n hX dX7_termClause_0 rfl ?_
  refine g_bipush hX dX7_termClause_1 kn_b_108 ?_
  refine g_bipush hX dX7_termClause_3 kn_b_105 ?_
  refine g_bipush hX dX7_termClause_5 kn_b_107 ?_
  refine g_bipush hX dX7_termClause_7 kn_b_101 ?_
  refine g_callSRl hX dX7_termClause_9 cw_X7_186 (ct_X7_five  (by omega) (by omega)) [] rfl rfl (by decide) rfl ⟨by decide, by decide⟩ (Nat.le_of_ble_eq_true rfl) (Nat.le_refl _) (Nat.le_refl _) ?_
  refine g_lcmp hX dX7_termClause_12 ?_
  refine g_if_ne (tgt := 32) hX dX7_termClause_13 (by decide) (fun h13 => ?_) (fun h13 => ?_)
  · skip
    refine g_lload_n hX dX7_termClause_32 rfl ?_
    refine g_bipush hX dX7_termClause_33 kn_b_111 ?_
    refine g_bipush hX dX7_termClause_35 kn_b_100 ?_
    refine g_bipush hX dX7_termClause_37 kn_b_100 ?_
    refine g_iconst hX dX7_termClause_39 kn_i_0 ?_
    refine g_callSRl hX dX7_termClause_40 cw_X7_186 (ct_X7_five  (by omega) (by omega)) [] rfl rfl (by decide) rfl ⟨by decide, by decide⟩ (Nat.le_of_ble_eq_true rfl) (Nat.le_refl _) (Nat.le_refl _) ?_
    refine g_lcmp hX dX7_termClause_43 ?_
    refine g_if_ne (tgt := 63) hX dX7_termClause_44 (by decide) (fun h44 => ?_) (fun h44 => ?_)
    · skip
      refine g_lload_n hX dX7_termClause_63 rfl ?_
      refine g_bipush hX dX7_termClause_64 kn_b_99 ?_
      refine g_bipush hX dX7_termClause_66 kn_b_97 ?_
      refine g_bipush hX dX7_termClause_68 kn_b_112 ?_
      refine g_iconst hX dX7_termClause_70 kn_i_0 ?_
      refine g_callSRl hX dX7_termClause_71 cw_X7_186 (ct_X7_five  (by omega) (by omega)) [] rfl rfl (by decide) rfl ⟨by decide, by decide⟩ (Nat.le_of_ble_eq_true rfl) (Nat.le_refl _) (Nat.le_refl _) ?_
      refine g_lcmp hX dX7_termClause_74 ?_
      refine g_if_ne (tgt := 94) hX dX7_termClause_75 (by decide) (fun h75 => ?_) (fun h75 => ?_)
      · skip
        refine g_lload_n hX dX7_termClause_94 rfl ?_
        refine g_bipush hX dX7_termClause_95 kn_b_97 ?_
        refine g_bipush hX dX7_termClause_97 kn_b_105 ?_
        refine g_bipush hX dX7_termClause_99 kn_b_109 ?_
        refine g_iconst hX dX7_termClause_101 kn_i_0 ?_
        refine g_callSRl hX dX7_termClause_102 cw_X7_186 (ct_X7_five  (by omega) (by omega)) [] rfl rfl (by decide) rfl ⟨by decide, by decide⟩ (Nat.le_of_ble_eq_true rfl) (Nat.le_refl _) (Nat.le_refl _) ?_
        refine g_lcmp hX dX7_termClause_105 ?_
        refine g_if_ne (tgt := 125) hX dX7_termClause_106 (by decide) (fun h106 => ?_) (fun h106 => ?_)
        · skip
          refine g_lload_n hX dX7_termClause_125 rfl ?_
          refine g_bipush hX dX7_termClause_126 kn_b_98 ?_
          refine g_bipush hX dX7_termClause_128 kn_b_121 ?_
          refine g_iconst hX dX7_termClause_130 kn_i_0 ?_
          refine g_iconst hX dX7_termClause_131 kn_i_0 ?_
          refine g_callSRl hX dX7_termClause_132 cw_X7_186 (ct_X7_five  (by omega) (by omega)) [] rfl rfl (by decide) rfl ⟨by decide, by decide⟩ (Nat.le_of_ble_eq_true rfl) (Nat.le_refl _) (Nat.le_refl _) ?_
          refine g_lcmp hX dX7_termClause_135 ?_
          refine g_if_ne (tgt := 146) hX dX7_termClause_136 (by decide) (fun h136 => ?_) (fun h136 => ?_)
          · skip
            refine g_aload_n hX dX7_termClause_146 rfl ?_
            refine g_iconst hX dX7_termClause_147 kn_i_1 ?_
            refine g_iload_n hX dX7_termClause_148 rfl ?_
            refine g_call hX dX7_termClause_149 cw_X7_156 (ct_X7_fail  (by omega)) 0 8 [0] rfl rfl rfl rfl (by decide) rfl (fun ⟨_, _⟩ => rfl) ⟨by decide, by decide⟩ (Nat.le_of_ble_eq_true rfl) ⟨Nat.le_refl _, Nat.le_refl _⟩ (fun v u hp => ?_)
            obtain ⟨F149, P149⟩ := u
            obtain ⟨rfl, hs149⟩ := hp
            show G X Q [(a0, .inr (8, [.ref a1, .int (nI uk), .int kp, .int sd, .ref a2, .ref a3, .int (nI sz), .int P149, .ref a4, .ref a5, .ref a6, .int (nI wr), .ref a7, .ref a8, .int (nI pa), .int (nI F149), .ref a9, .int (nI ln), .ref a10])), (a3, .inl (D.1 100, 150, .inl (fun k => nI (t k)))), (a1, .inl (D.1 100, 3318, .inl w))] 0 0 152 [some (.ref a0), some (.long (lN (wcd t fr pa))), none, some (.int (nI fr))] []
            subst hQ
            exact g_vretU hX dX7_termClause_152 (pa, F149, P149, w) (⟨rfl, flt_flt hpa rfl (n := 1) (p := fr) (by unfold qTerm; rw [if_neg (fun q => h13 ((w_like hlr).mpr q)), if_neg (fun q => h44 ((w_odd hlr).mpr q)), if_neg (fun q => h75 ((w_cap hlr).mpr q)), if_neg (fun q => h106 ((w_aim hlr).mpr q)), if_neg (fun q => h136 ((w_by hlr).mpr q))]) (hs149.1 rfl).1 (hs149.1 rfl).2 (by decide), fun _ _ => rfl⟩) rfl (Nat.le_refl _) (Nat.le_refl _)
          · skip
            refine g_aload_n hX dX7_termClause_139 rfl ?_
            refine g_call hX dX7_termClause_140 cw_X7_194 (ct_X7_byClause  (by omega) (by omega) (by first | with_reducible assumption | assumption)) 0 8 [0, 1, 2] rfl rfl rfl rfl (by decide) rfl (fun ⟨_, _, _, _⟩ => rfl) ⟨by decide, by decide⟩ (Nat.le_of_ble_eq_true rfl) ⟨Nat.le_refl _, Nat.le_refl _⟩ (fun v u hp => ?_)
            obtain ⟨A140, F140, P140, W140⟩ := u
            obtain ⟨rfl, hs140, hw140⟩ := hp
            show G X Q [(a0, .inr (8, [.ref a1, .int (nI uk), .int kp, .int sd, .ref a2, .ref a3, .int (nI sz), .int P140, .ref a4, .ref a5, .ref a6, .int (nI wr), .ref a7, .ref a8, .int (nI A140), .int (nI F140), .ref a9, .int (nI ln), .ref a10])), (a3, .inl (D.1 100, 150, .inl (fun k => nI (t k)))), (a1, .inl (D.1 100, 3318, .inl W140))] 0 0 143 [some (.ref a0), some (.long (lN (wcd t fr pa))), none, some (.int (nI fr))] []
            refine g_goto (tgt := 152) hX dX7_termClause_143 (by decide) ?_
            subst hQ
            exact g_vretU hX dX7_termClause_152 (A140, F140, P140, W140) (⟨rfl, by have e : qTerm t sz w fr pa = qBy t sz w pa := (by unfold qTerm; rw [if_neg (fun q => h13 ((w_like hlr).mpr q)), if_neg (fun q => h44 ((w_odd hlr).mpr q)), if_neg (fun q => h75 ((w_cap hlr).mpr q)), if_neg (fun q => h106 ((w_aim hlr).mpr q)), if_pos ((w_by hlr).mp h136)]); rw [e]; exact hs140, hw140⟩) rfl (Nat.le_refl _) (Nat.le_refl _)
        · skip
          refine g_aload_n hX dX7_termClause_109 rfl ?_
          refine g_getf hX dX7_termClause_110 fk_X7_7 0 rfl rfl ?_
          refine g_iconst hX dX7_termClause_113 kn_i_4 ?_
          refine g_aload_n hX dX7_termClause_114 rfl ?_
          refine g_iconst hX dX7_termClause_115 kn_i_0 ?_
          refine g_bipush hX dX7_termClause_116 kn_b_99 ?_
          refine g_call hX dX7_termClause_118 cw_X7_174 (ct_X7_number  (by omega) (by omega) (by omega) (by first | with_reducible assumption | assumption) (by omega) (by omega)) 0 8 [0, 1] rfl rfl rfl rfl (by decide) rfl (fun ⟨_, _, _, _⟩ => rfl) ⟨by decide, by decide⟩ (Nat.le_of_ble_eq_true rfl) ⟨Nat.le_refl _, Nat.le_refl _⟩ (fun v u hp => ?_)
          obtain ⟨V118, A118, F118, P118⟩ := u
          obtain ⟨rfl, hs118, hv118⟩ := hp
          show G X Q [(a0, .inr (8, [.ref a1, .int (nI uk), .int kp, .int sd, .ref a2, .ref a3, .int (nI sz), .int P118, .ref a4, .ref a5, .ref a6, .int (nI wr), .ref a7, .ref a8, .int (nI A118), .int (nI F118), .ref a9, .int (nI ln), .ref a10])), (a3, .inl (D.1 100, 150, .inl (fun k => nI (t k)))), (a1, .inl (D.1 100, 3318, .inl w))] 0 0 121 [some (.ref a0), some (.long (lN (wcd t fr pa))), none, some (.int (nI fr))] [.int (nI V118), .int (nI 4), .ref a1]
          refine g_iast (ws' := [(a0, .inr (8, [.ref a1, .int (nI uk), .int kp, .int sd, .ref a2, .ref a3, .int (nI sz), .int P118, .ref a4, .ref a5, .ref a6, .int (nI wr), .ref a7, .ref a8, .int (nI A118), .int (nI F118), .ref a9, .int (nI ln), .ref a10])), (a3, .inl (D.1 100, 150, .inl (fun k => nI (t k)))), (a1, .inl (D.1 100, 3318, .inl (upd w 4 (nI V118))))]) hX dX7_termClause_121 2 rfl (by decide) (by omega) rfl ?_
          refine g_goto (tgt := 152) hX dX7_termClause_122 (by decide) ?_
          subst hQ
          exact g_vretU hX dX7_termClause_152 (A118, F118, P118, upd w 4 (nI V118)) (⟨rfl, by have e : qTerm t sz w fr pa = qTermN t sz w 3 0 99 pa := (by unfold qTerm; rw [if_neg (fun q => h13 ((w_like hlr).mpr q)), if_neg (fun q => h44 ((w_odd hlr).mpr q)), if_neg (fun q => h75 ((w_cap hlr).mpr q)), if_pos ((w_aim hlr).mp h106)]); rw [e]; exact qTermN_map (k := 3) hs118, fun k hk => pk_un (by omega)⟩) rfl (Nat.le_refl _) (Nat.le_refl _)
      · skip
        refine g_aload_n hX dX7_termClause_78 rfl ?_
        refine g_getf hX dX7_termClause_79 fk_X7_7 0 rfl rfl ?_
        refine g_iconst hX dX7_termClause_82 kn_i_3 ?_
        refine g_aload_n hX dX7_termClause_83 rfl ?_
        refine g_iconst hX dX7_termClause_84 kn_i_1 ?_
        refine g_bipush hX dX7_termClause_85 kn_b_20 ?_
        refine g_call hX dX7_termClause_87 cw_X7_174 (ct_X7_number  (by omega) (by omega) (by omega) (by first | with_reducible assumption | assumption) (by omega) (by omega)) 0 8 [0, 1] rfl rfl rfl rfl (by decide) rfl (fun ⟨_, _, _, _⟩ => rfl) ⟨by decide, by decide⟩ (Nat.le_of_ble_eq_true rfl) ⟨Nat.le_refl _, Nat.le_refl _⟩ (fun v u hp => ?_)
        obtain ⟨V87, A87, F87, P87⟩ := u
        obtain ⟨rfl, hs87, hv87⟩ := hp
        show G X Q [(a0, .inr (8, [.ref a1, .int (nI uk), .int kp, .int sd, .ref a2, .ref a3, .int (nI sz), .int P87, .ref a4, .ref a5, .ref a6, .int (nI wr), .ref a7, .ref a8, .int (nI A87), .int (nI F87), .ref a9, .int (nI ln), .ref a10])), (a3, .inl (D.1 100, 150, .inl (fun k => nI (t k)))), (a1, .inl (D.1 100, 3318, .inl w))] 0 0 90 [some (.ref a0), some (.long (lN (wcd t fr pa))), none, some (.int (nI fr))] [.int (nI V87), .int (nI 3), .ref a1]
        refine g_iast (ws' := [(a0, .inr (8, [.ref a1, .int (nI uk), .int kp, .int sd, .ref a2, .ref a3, .int (nI sz), .int P87, .ref a4, .ref a5, .ref a6, .int (nI wr), .ref a7, .ref a8, .int (nI A87), .int (nI F87), .ref a9, .int (nI ln), .ref a10])), (a3, .inl (D.1 100, 150, .inl (fun k => nI (t k)))), (a1, .inl (D.1 100, 3318, .inl (upd w 3 (nI V87))))]) hX dX7_termClause_90 2 rfl (by decide) (by omega) rfl ?_
        refine g_goto (tgt := 152) hX dX7_termClause_91 (by decide) ?_
        subst hQ
        exact g_vretU hX dX7_termClause_152 (A87, F87, P87, upd w 3 (nI V87)) (⟨rfl, by have e : qTerm t sz w fr pa = qTermN t sz w 2 1 20 pa := (by unfold qTerm; rw [if_neg (fun q => h13 ((w_like hlr).mpr q)), if_neg (fun q => h44 ((w_odd hlr).mpr q)), if_pos ((w_cap hlr).mp h75)]); rw [e]; exact qTermN_map (k := 2) hs87, fun k hk => pk_un (by omega)⟩) rfl (Nat.le_refl _) (Nat.le_refl _)
    · skip
      refine g_aload_n hX dX7_termClause_47 rfl ?_
      refine g_getf hX dX7_termClause_48 fk_X7_7 0 rfl rfl ?_
      refine g_iconst hX dX7_termClause_51 kn_i_2 ?_
      refine g_aload_n hX dX7_termClause_52 rfl ?_
      refine g_iconst hX dX7_termClause_53 kn_i_0 ?_
      refine g_bipush hX dX7_termClause_54 kn_b_20 ?_
      refine g_call hX dX7_termClause_56 cw_X7_174 (ct_X7_number  (by omega) (by omega) (by omega) (by first | with_reducible assumption | assumption) (by omega) (by omega)) 0 8 [0, 1] rfl rfl rfl rfl (by decide) rfl (fun ⟨_, _, _, _⟩ => rfl) ⟨by decide, by decide⟩ (Nat.le_of_ble_eq_true rfl) ⟨Nat.le_refl _, Nat.le_refl _⟩ (fun v u hp => ?_)
      obtain ⟨V56, A56, F56, P56⟩ := u
      obtain ⟨rfl, hs56, hv56⟩ := hp
      show G X Q [(a0, .inr (8, [.ref a1, .int (nI uk), .int kp, .int sd, .ref a2, .ref a3, .int (nI sz), .int P56, .ref a4, .ref a5, .ref a6, .int (nI wr), .ref a7, .ref a8, .int (nI A56), .int (nI F56), .ref a9, .int (nI ln), .ref a10])), (a3, .inl (D.1 100, 150, .inl (fun k => nI (t k)))), (a1, .inl (D.1 100, 3318, .inl w))] 0 0 59 [some (.ref a0), some (.long (lN (wcd t fr pa))), none, some (.int (nI fr))] [.int (nI V56), .int (nI 2), .ref a1]
      refine g_iast (ws' := [(a0, .inr (8, [.ref a1, .int (nI uk), .int kp, .int sd, .ref a2, .ref a3, .int (nI sz), .int P56, .ref a4, .ref a5, .ref a6, .int (nI wr), .ref a7, .ref a8, .int (nI A56), .int (nI F56), .ref a9, .int (nI ln), .ref a10])), (a3, .inl (D.1 100, 150, .inl (fun k => nI (t k)))), (a1, .inl (D.1 100, 3318, .inl (upd w 2 (nI V56))))]) hX dX7_termClause_59 2 rfl (by decide) (by omega) rfl ?_
      refine g_goto (tgt := 152) hX dX7_termClause_60 (by decide) ?_
      subst hQ
      exact g_vretU hX dX7_termClause_152 (A56, F56, P56, upd w 2 (nI V56)) (⟨rfl, by have e : qTerm t sz w fr pa = qTermN t sz w 1 0 20 pa := (by unfold qTerm; rw [if_neg (fun q => h13 ((w_like hlr).mpr q)), if_pos ((w_odd hlr).mp h44)]); rw [e]; exact qTermN_map (k := 1) hs56, fun k hk => pk_un (by omega)⟩) rfl (Nat.le_refl _) (Nat.le_refl _)
  · skip
    refine g_aload_n hX dX7_termClause_16 rfl ?_
    refine g_getf hX dX7_termClause_17 fk_X7_7 0 rfl rfl ?_
    refine g_iconst hX dX7_termClause_20 kn_i_1 ?_
    refine g_aload_n hX dX7_termClause_21 rfl ?_
    refine g_iconst hX dX7_termClause_22 kn_i_0 ?_
    refine g_bipush hX dX7_termClause_23 kn_b_99 ?_
    refine g_call hX dX7_termClause_25 cw_X7_174 (ct_X7_number  (by omega) (by omega) (by omega) (by first | with_reducible assumption | assumption) (by omega) (by omega)) 0 8 [0, 1] rfl rfl rfl rfl (by decide) rfl (fun ⟨_, _, _, _⟩ => rfl) ⟨by decide, by decide⟩ (Nat.le_of_ble_eq_true rfl) ⟨Nat.le_refl _, Nat.le_refl _⟩ (fun v u hp => ?_)
    obtain ⟨V25, A25, F25, P25⟩ := u
    obtain ⟨rfl, hs25, hv25⟩ := hp
    show G X Q [(a0, .inr (8, [.ref a1, .int (nI uk), .int kp, .int sd, .ref a2, .ref a3, .int (nI sz), .int P25, .ref a4, .ref a5, .ref a6, .int (nI wr), .ref a7, .ref a8, .int (nI A25), .int (nI F25), .ref a9, .int (nI ln), .ref a10])), (a3, .inl (D.1 100, 150, .inl (fun k => nI (t k)))), (a1, .inl (D.1 100, 3318, .inl w))] 0 0 28 [some (.ref a0), some (.long (lN (wcd t fr pa))), none, some (.int (nI fr))] [.int (nI V25), .int (nI 1), .ref a1]
    refine g_iast (ws' := [(a0, .inr (8, [.ref a1, .int (nI uk), .int kp, .int sd, .ref a2, .ref a3, .int (nI sz), .int P25, .ref a4, .ref a5, .ref a6, .int (nI wr), .ref a7, .ref a8, .int (nI A25), .int (nI F25), .ref a9, .int (nI ln), .ref a10])), (a3, .inl (D.1 100, 150, .inl (fun k => nI (t k)))), (a1, .inl (D.1 100, 3318, .inl (upd w 1 (nI V25))))]) hX dX7_termClause_28 2 rfl (by decide) (by omega) rfl ?_
    refine g_goto (tgt := 152) hX dX7_termClause_29 (by decide) ?_
    subst hQ
    exact g_vretU hX dX7_termClause_152 (A25, F25, P25, upd w 1 (nI V25)) (⟨rfl, by have e : qTerm t sz w fr pa = qTermN t sz w 0 0 99 pa := (by unfold qTerm; rw [if_pos ((w_like hlr).mp h13)]); rw [e]; exact qTermN_map (k := 0) hs25, fun k hk => pk_un (by omega)⟩) rfl (Nat.le_refl _) (Nat.le_refl _)
set_option maxRecDepth 100000 in
set_option maxHeartbeats 4000000 in
theorem ct_X7_clause {l : Launch} {D : va_G} {a0 a1 a2 a3 a4 a5 a6 a7 a8 a9 a10 uk sz wr pa ln : Nat} {kp sd fa : Int32} {t : Nat → Nat} {w : Nat → Int32} (hsz : sz ≤ 150) (hpa : pa ≤ sz) (ht : ∀ k, t k < 256) : Ct (S := Nat × Nat × Int32 × (Nat → Int32)) l D yX7_clause cX7_clause 4 none 4 95 0 0 [.ref a0] [(a0, .inr (8, [.ref a1, .int (nI uk), .int kp, .int sd, .ref a2, .ref a3, .int (nI sz), .int fa, .ref a4, .ref a5, .ref a6, .int (nI wr), .ref a7, .ref a8, .int (nI pa), .int (nI 0), .ref a9, .int (nI ln), .ref a10])), (a3, .inl (D.1 100, 150, .inl (fun k => nI (t k)))), (a1, .inl (D.1 100, 3318, .inl w))] (fun (r : Option Value) (u : Nat × Nat × Int32 × (Nat → Int32)) => match u with | (A, F, P, W) => r = none ∧ (fltP 0 fa F P A sz (qClause t sz w pa) (fun a => A = a.1 ∧ W = a.2)) ∧ (∀ k, 158 ≤ k → W k = w k)) (fun (u : Nat × Nat × Int32 × (Nat → Int32)) => match u with | (A, F, P, W) => ([(a0, .inr (8, [.ref a1, .int (nI uk), .int kp, .int sd, .ref a2, .ref a3, .int (nI sz), .int P, .ref a4, .ref a5, .ref a6, .int (nI wr), .ref a7, .ref a8, .int (nI A), .int (nI F), .ref a9, .int (nI ln), .ref a10])), (a3, .inl (D.1 100, 150, .inl (fun k => nI (t k)))), (a1, .inl (D.1 100, 3318, .inl W))] : va_W)) := by
  refine Ct.ofG (by decide) (Nat.le_of_ble_eq_true rfl) ?_
  intro X hX
  have hX : CX X l D RX7 "clause" cX7_clause 4 none 4 95 0 0 := hX
  show G X (QM X 0 0 (fun (r : Option Value) (u : Nat × Nat × Int32 × (Nat → Int32)) => match u with | (A, F, P, W) => r = none ∧ (fltP 0 fa F P A sz (qClause t sz w pa) (fun a => A = a.1 ∧ W = a.2)) ∧ (∀ k, 158 ≤ k → W k = w k)) (fun (u : Nat × Nat × Int32 × (Nat → Int32)) => match u with | (A, F, P, W) => ([(a0, .inr (8, [.ref a1, .int (nI uk), .int kp, .int sd, .ref a2, .ref a3, .int (nI sz), .int P, .ref a4, .ref a5, .ref a6, .int (nI wr), .ref a7, .ref a8, .int (nI A), .int (nI F), .ref a9, .int (nI ln), .ref a10])), (a3, .inl (D.1 100, 150, .inl (fun k => nI (t k)))), (a1, .inl (D.1 100, 3318, .inl W))] : va_W))) [(a0, .inr (8, [.ref a1, .int (nI uk), .int kp, .int sd, .ref a2, .ref a3, .int (nI sz), .int fa, .ref a4, .ref a5, .ref a6, .int (nI wr), .ref a7, .ref a8, .int (nI pa), .int (nI 0), .ref a9, .int (nI ln), .ref a10])), (a3, .inl (D.1 100, 150, .inl (fun k => nI (t k)))), (a1, .inl (D.1 100, 3318, .inl w))] 0 0 0 [some (.ref a0), none, none, none] []
  generalize hQ : QM X 0 0 (fun (r : Option Value) (u : Nat × Nat × Int32 × (Nat → Int32)) => match u with | (A, F, P, W) => r = none ∧ (fltP 0 fa F P A sz (qClause t sz w pa) (fun a => A = a.1 ∧ W = a.2)) ∧ (∀ k, 158 ≤ k → W k = w k)) (fun (u : Nat × Nat × Int32 × (Nat → Int32)) => match u with | (A, F, P, W) => ([(a0, .inr (8, [.ref a1, .int (nI uk), .int kp, .int sd, .ref a2, .ref a3, .int (nI sz), .int P, .ref a4, .ref a5, .ref a6, .int (nI wr), .ref a7, .ref a8, .int (nI A), .int (nI F), .ref a9, .int (nI ln), .ref a10])), (a3, .inl (D.1 100, 150, .inl (fun k => nI (t k)))), (a1, .inl (D.1 100, 3318, .inl W))] : va_W)) = Q
  refine g_aload_n hX dX7_clause_0 rfl ?_
  refine g_getf hX dX7_clause_1 fk_X7_132 0 rfl rfl ?_
  refine g_istore_n (L' := [some (.ref a0), some (.int (nI pa)), none, none]) hX dX7_clause_4 (by decide) rfl ?_
  have loop5 : ∀ p : Nat, p ≤ sz → (sm t sz (pa) = sm t sz p) → (pa ≤ p) → G X Q [(a0, .inr (8, [.ref a1, .int (nI uk), .int kp, .int sd, .ref a2, .ref a3, .int (nI sz), .int fa, .ref a4, .ref a5, .ref a6, .int (nI wr), .ref a7, .ref a8, .int (nI p), .int (nI 0), .ref a9, .int (nI ln), .ref a10])), (a3, .inl (D.1 100, 150, .inl (fun k => nI (t k)))), (a1, .inl (D.1 100, 3318, .inl w))] 0 0 5 [some (.ref a0), some (.int (nI pa)), none, none] [] := by
    refine loopN sz (fun p hh5 ih5 => ?_)
    intro hr hge
    refine g_aload_n hX dX7_clause_5 rfl ?_
    refine g_callRi hX dX7_clause_6 cw_X7_141 (ct_X7_here  (by omega) (by omega) (by omega) (by first | with_reducible assumption | assumption)) 0 8 [0, 1] rfl rfl rfl rfl (by decide) rfl ⟨by decide, by decide⟩ (Nat.le_of_ble_eq_true rfl) (Nat.le_refl _) (Nat.le_refl _) ?_
    refine g_callSRi hX dX7_clause_9 cw_X7_179 (ct_X7_isSmall  (smallO_here ht)) [] rfl rfl (by decide) rfl ⟨by decide, by decide⟩ (Nat.le_of_ble_eq_true rfl) (Nat.le_refl _) (Nat.le_refl _) ?_
    refine g_ifb_eq (tgt := 28) hX dX7_clause_12 (by decide) (fun h12 => ?_) (fun h12 => ?_)
    · skip
      have hsm := h12
      obtain rfl : p = sm t sz (pa) := by rw [hr, sm_stop hsm]
      have hlr := sm_rng (t := t) (sz := sz) (p := pa)
      have hge2 := sm_ge (t := t) (sz := sz) (p := pa)
      have hle2 := sm_le (t := t) hpa
      refine g_aload_n hX dX7_clause_28 rfl ?_
      refine g_getf hX dX7_clause_29 fk_X7_132 0 rfl rfl ?_
      refine g_iload_n hX dX7_clause_32 rfl ?_
      refine g_icmpN_le (tgt := 48) hX dX7_clause_33 (by decide) (by omega) (by omega) (fun h33 => ?_) (fun h33 => ?_)
      · skip
        refine g_iconst hX dX7_clause_48 kn_i_m1 ?_
        refine g_istore_n (L' := [some (.ref a0), some (.int (nI pa)), some (.int (-1)), none]) hX dX7_clause_49 (by decide) rfl ?_
        refine g_aload_n hX dX7_clause_50 rfl ?_
        refine g_getf hX dX7_clause_51 fk_X7_132 0 rfl rfl ?_
        refine g_iload_n hX dX7_clause_54 rfl ?_
        refine g_iconst hX dX7_clause_55 kn_i_1 ?_
        refine g_iaddN hX dX7_clause_56 ?_
        refine g_icmpN_le (tgt := 74) hX dX7_clause_57 (by decide) (by omega) (by omega) (fun h57 => ?_) (fun h => absurd (by omega) h)
        refine g_iconst hX dX7_clause_74 kn_i_m1 ?_
        refine g_istore_n (L' := [some (.ref a0), some (.int (nI pa)), some (.int (-1)), some (.int (-1))]) hX dX7_clause_75 (by decide) rfl ?_
        refine g_aload_n hX dX7_clause_76 rfl ?_
        refine g_getf hX dX7_clause_77 fk_X7_132 0 rfl rfl ?_
        refine g_iload_n hX dX7_clause_80 rfl ?_
        refine g_iconst hX dX7_clause_81 kn_i_1 ?_
        refine g_iaddN hX dX7_clause_82 ?_
        refine g_icmpN_ne (tgt := 100) hX dX7_clause_83 (by decide) (by omega) (by omega) (fun h83 => ?_) (fun h => absurd h (by omega))
        refine g_aload_n hX dX7_clause_100 rfl ?_
        refine g_getf hX dX7_clause_101 fk_X7_132 0 rfl rfl ?_
        refine g_iload_n hX dX7_clause_104 rfl ?_
        refine g_iconst hX dX7_clause_105 kn_i_2 ?_
        refine g_iaddN hX dX7_clause_106 ?_
        refine g_icmpN_ne (tgt := 132) hX dX7_clause_107 (by decide) (by omega) (by omega) (fun h107 => ?_) (fun h => absurd h (by omega))
        refine g_aload_n hX dX7_clause_132 rfl ?_
        refine g_getf hX dX7_clause_133 fk_X7_132 0 rfl rfl ?_
        refine g_iload_n hX dX7_clause_136 rfl ?_
        refine g_icmpN_le (tgt := 160) hX dX7_clause_137 (by decide) (by omega) (by omega) (fun h137 => ?_) (fun h => absurd (by omega) h)
        refine g_aload_n hX dX7_clause_160 rfl ?_
        refine g_iconst hX dX7_clause_161 kn_i_1 ?_
        refine g_iload_n hX dX7_clause_162 rfl ?_
        refine g_call hX dX7_clause_163 cw_X7_156 (ct_X7_fail  (by omega)) 0 8 [0] rfl rfl rfl rfl (by decide) rfl (fun ⟨_, _⟩ => rfl) ⟨by decide, by decide⟩ (Nat.le_of_ble_eq_true rfl) ⟨Nat.le_refl _, Nat.le_refl _⟩ (fun v u hp => ?_)
        obtain ⟨F163, P163⟩ := u
        obtain ⟨rfl, hs163⟩ := hp
        show G X Q [(a0, .inr (8, [.ref a1, .int (nI uk), .int kp, .int sd, .ref a2, .ref a3, .int (nI sz), .int P163, .ref a4, .ref a5, .ref a6, .int (nI wr), .ref a7, .ref a8, .int (nI (sm t sz (pa))), .int (nI F163), .ref a9, .int (nI ln), .ref a10])), (a3, .inl (D.1 100, 150, .inl (fun k => nI (t k)))), (a1, .inl (D.1 100, 3318, .inl w))] 0 0 166 [some (.ref a0), some (.int (nI pa)), some (.int (-1)), some (.int (-1))] []
        have hbd : fltP 0 fa F163 P163 (sm t sz pa) sz (qBody t sz w pa) (fun a => sm t sz pa = a.1 ∧ w = a.2) := flt_flt (by omega) rfl (n := 1) (p := pa) (qBody_e (by omega)) (hs163.1 rfl).1 (hs163.1 rfl).2 (by decide)
        have hwd : ∀ k, 158 ≤ k → w k = w k := fun _ _ => rfl
        have hF9 : F163 < 100 := flt_F hbd (by decide) (fun e he => qBody_F he)
        have hA9 := hbd.1
        refine g_aload_n hX dX7_clause_166 rfl ?_
        refine g_getf hX dX7_clause_167 fk_X7_138 0 rfl rfl ?_
        refine g_ifN_ne (tgt := 179) hX dX7_clause_170 (by decide) (by omega) (fun h170 => ?_) (fun h170 => ?_)
        · skip
          subst hQ
          exact g_vretU hX dX7_clause_179 ((sm t sz (pa)), F163, P163, w) (⟨rfl, flt_bad hbd h170 qClause_bad, hwd⟩) rfl (Nat.le_refl _) (Nat.le_refl _)
        · skip
          refine g_aload_n hX dX7_clause_173 rfl ?_
          refine g_bipush hX dX7_clause_174 kn_b_59 ?_
          refine g_call hX dX7_clause_176 cw_X7_170 (ct_X7_want  (by omega) (by omega) (by omega) (by first | with_reducible assumption | assumption) (by omega)) 0 8 [0, 1] rfl rfl rfl rfl (by decide) rfl (fun ⟨_, _, _⟩ => rfl) ⟨by decide, by decide⟩ (Nat.le_of_ble_eq_true rfl) ⟨Nat.le_refl _, Nat.le_refl _⟩ (fun v u hp => ?_)
          obtain ⟨A176, F176, P176⟩ := u
          obtain ⟨rfl, hs176⟩ := hp
          show G X Q [(a0, .inr (8, [.ref a1, .int (nI uk), .int kp, .int sd, .ref a2, .ref a3, .int (nI sz), .int P176, .ref a4, .ref a5, .ref a6, .int (nI wr), .ref a7, .ref a8, .int (nI A176), .int (nI F176), .ref a9, .int (nI ln), .ref a10])), (a3, .inl (D.1 100, 150, .inl (fun k => nI (t k)))), (a1, .inl (D.1 100, 3318, .inl w))] 0 0 179 [some (.ref a0), some (.int (nI pa)), some (.int (-1)), some (.int (-1))] []
          subst hQ
          exact g_vretU hX dX7_clause_179 (A176, F176, P176, w) (⟨rfl, cl_end hbd hs176, hwd⟩) rfl (Nat.le_refl _) (Nat.le_refl _)
      · skip
        have hl0 := hlr pa (by omega) (by omega)
        refine g_aload_n hX dX7_clause_36 rfl ?_
        refine g_getf hX dX7_clause_37 fk_X7_16 0 rfl rfl ?_
        refine g_iload_n hX dX7_clause_40 rfl ?_
        refine g_iald hX dX7_clause_41 1 rfl (by decide) (by omega) ?_
        show G X Q [(a0, .inr (8, [.ref a1, .int (nI uk), .int kp, .int sd, .ref a2, .ref a3, .int (nI sz), .int fa, .ref a4, .ref a5, .ref a6, .int (nI wr), .ref a7, .ref a8, .int (nI (sm t sz (pa))), .int (nI 0), .ref a9, .int (nI ln), .ref a10])), (a3, .inl (D.1 100, 150, .inl (fun k => nI (t k)))), (a1, .inl (D.1 100, 3318, .inl w))] 0 0 42 [some (.ref a0), some (.int (nI pa)), none, none] [.int (nI (t pa))]
        refine g_bipush hX dX7_clause_42 kn_b_97 ?_
        refine g_isubN hX dX7_clause_44 (by omega) ?_
        refine g_goto (tgt := 49) hX dX7_clause_45 (by decide) ?_
        refine g_istore_n (L' := [some (.ref a0), some (.int (nI pa)), some (.int (nI ((t pa) - 97))), none]) hX dX7_clause_49 (by decide) rfl ?_
        refine g_aload_n hX dX7_clause_50 rfl ?_
        refine g_getf hX dX7_clause_51 fk_X7_132 0 rfl rfl ?_
        refine g_iload_n hX dX7_clause_54 rfl ?_
        refine g_iconst hX dX7_clause_55 kn_i_1 ?_
        refine g_iaddN hX dX7_clause_56 ?_
        refine g_icmpN_le (tgt := 74) hX dX7_clause_57 (by decide) (by omega) (by omega) (fun h57 => ?_) (fun h57 => ?_)
        · skip
          refine g_iconst hX dX7_clause_74 kn_i_m1 ?_
          refine g_istore_n (L' := [some (.ref a0), some (.int (nI pa)), some (.int (nI ((t pa) - 97))), some (.int (-1))]) hX dX7_clause_75 (by decide) rfl ?_
          refine g_aload_n hX dX7_clause_76 rfl ?_
          refine g_getf hX dX7_clause_77 fk_X7_132 0 rfl rfl ?_
          refine g_iload_n hX dX7_clause_80 rfl ?_
          refine g_iconst hX dX7_clause_81 kn_i_1 ?_
          refine g_iaddN hX dX7_clause_82 ?_
          refine g_icmpN_ne (tgt := 100) hX dX7_clause_83 (by decide) (by omega) (by omega) (fun h => absurd (by omega) h) (fun h83 => ?_)
          refine g_iload_n hX dX7_clause_86 rfl ?_
          refine g_bipush hX dX7_clause_87 kn_b_8 ?_
          refine g_icmpN_ge (tgt := 100) hX dX7_clause_89 (by decide) (by omega) (by omega) (fun h89 => ?_) (fun h89 => ?_)
          · skip
            refine g_aload_n hX dX7_clause_100 rfl ?_
            refine g_getf hX dX7_clause_101 fk_X7_132 0 rfl rfl ?_
            refine g_iload_n hX dX7_clause_104 rfl ?_
            refine g_iconst hX dX7_clause_105 kn_i_2 ?_
            refine g_iaddN hX dX7_clause_106 ?_
            refine g_icmpN_ne (tgt := 132) hX dX7_clause_107 (by decide) (by omega) (by omega) (fun h107 => ?_) (fun h => absurd h (by omega))
            refine g_aload_n hX dX7_clause_132 rfl ?_
            refine g_getf hX dX7_clause_133 fk_X7_132 0 rfl rfl ?_
            refine g_iload_n hX dX7_clause_136 rfl ?_
            refine g_icmpN_le (tgt := 160) hX dX7_clause_137 (by decide) (by omega) (by omega) (fun h => absurd h (by omega)) (fun h137 => ?_)
            refine g_aload_n hX dX7_clause_140 rfl ?_
            refine g_aload_n hX dX7_clause_141 rfl ?_
            refine g_getf hX dX7_clause_142 fk_X7_16 0 rfl rfl ?_
            refine g_iload_n hX dX7_clause_145 rfl ?_
            refine g_aload_n hX dX7_clause_146 rfl ?_
            refine g_getf hX dX7_clause_147 fk_X7_132 0 rfl rfl ?_
            refine g_callSRl hX dX7_clause_150 cw_X7_182 (ct_X7_wordOf  (by omega) (by omega) hlr) [1] rfl rfl (by decide) rfl ⟨by decide, by decide⟩ (Nat.le_of_ble_eq_true rfl) (Nat.le_refl _) (Nat.le_refl _) ?_
            refine g_iload_n hX dX7_clause_153 rfl ?_
            refine g_call hX dX7_clause_154 cw_X7_204 (ct_X7_termClause  (by omega) (by omega) (by first | with_reducible assumption | assumption) hlr) 0 8 [0, 1, 2] rfl rfl rfl rfl (by decide) rfl (fun ⟨_, _, _, _⟩ => rfl) ⟨by decide, by decide⟩ (Nat.le_of_ble_eq_true rfl) ⟨Nat.le_refl _, Nat.le_refl _⟩ (fun v u hp => ?_)
            obtain ⟨A154, F154, P154, W154⟩ := u
            obtain ⟨rfl, hs154, hw154⟩ := hp
            show G X Q [(a0, .inr (8, [.ref a1, .int (nI uk), .int kp, .int sd, .ref a2, .ref a3, .int (nI sz), .int P154, .ref a4, .ref a5, .ref a6, .int (nI wr), .ref a7, .ref a8, .int (nI A154), .int (nI F154), .ref a9, .int (nI ln), .ref a10])), (a3, .inl (D.1 100, 150, .inl (fun k => nI (t k)))), (a1, .inl (D.1 100, 3318, .inl W154))] 0 0 157 [some (.ref a0), some (.int (nI pa)), some (.int (nI ((t pa) - 97))), some (.int (-1))] []
            refine g_goto (tgt := 166) hX dX7_clause_157 (by decide) ?_
            have hbd := hs154
            rw [← qBody_t (w := w) (t := t) (sz := sz) (p := pa) (by omega)] at hbd
            have hwd := hw154
            have hF9 : F154 < 100 := flt_F hbd (by decide) (fun e he => qBody_F he)
            have hA9 := hbd.1
            refine g_aload_n hX dX7_clause_166 rfl ?_
            refine g_getf hX dX7_clause_167 fk_X7_138 0 rfl rfl ?_
            refine g_ifN_ne (tgt := 179) hX dX7_clause_170 (by decide) (by omega) (fun h170 => ?_) (fun h170 => ?_)
            · skip
              subst hQ
              exact g_vretU hX dX7_clause_179 (A154, F154, P154, W154) (⟨rfl, flt_bad hbd h170 qClause_bad, hwd⟩) rfl (Nat.le_refl _) (Nat.le_refl _)
            · skip
              refine g_aload_n hX dX7_clause_173 rfl ?_
              refine g_bipush hX dX7_clause_174 kn_b_59 ?_
              refine g_call hX dX7_clause_176 cw_X7_170 (ct_X7_want  (by omega) (by omega) (by omega) (by first | with_reducible assumption | assumption) (by omega)) 0 8 [0, 1] rfl rfl rfl rfl (by decide) rfl (fun ⟨_, _, _⟩ => rfl) ⟨by decide, by decide⟩ (Nat.le_of_ble_eq_true rfl) ⟨Nat.le_refl _, Nat.le_refl _⟩ (fun v u hp => ?_)
              obtain ⟨A176, F176, P176⟩ := u
              obtain ⟨rfl, hs176⟩ := hp
              show G X Q [(a0, .inr (8, [.ref a1, .int (nI uk), .int kp, .int sd, .ref a2, .ref a3, .int (nI sz), .int P176, .ref a4, .ref a5, .ref a6, .int (nI wr), .ref a7, .ref a8, .int (nI A176), .int (nI F176), .ref a9, .int (nI ln), .ref a10])), (a3, .inl (D.1 100, 150, .inl (fun k => nI (t k)))), (a1, .inl (D.1 100, 3318, .inl W154))] 0 0 179 [some (.ref a0), some (.int (nI pa)), some (.int (nI ((t pa) - 97))), some (.int (-1))] []
              subst hQ
              exact g_vretU hX dX7_clause_179 (A176, F176, P176, W154) (⟨rfl, cl_end hbd hs176, hwd⟩) rfl (Nat.le_refl _) (Nat.le_refl _)
          · skip
            refine g_aload_n hX dX7_clause_92 rfl ?_
            refine g_iload_n hX dX7_clause_93 rfl ?_
            refine g_call hX dX7_clause_94 cw_X7_197 (ct_X7_letterClause  (by omega) (by omega) (by first | with_reducible assumption | assumption) (by omega)) 0 8 [0, 1, 2] rfl rfl rfl rfl (by decide) rfl (fun ⟨_, _, _, _⟩ => rfl) ⟨by decide, by decide⟩ (Nat.le_of_ble_eq_true rfl) ⟨Nat.le_refl _, Nat.le_refl _⟩ (fun v u hp => ?_)
            obtain ⟨A94, F94, P94, W94⟩ := u
            obtain ⟨rfl, hs94, hw94⟩ := hp
            show G X Q [(a0, .inr (8, [.ref a1, .int (nI uk), .int kp, .int sd, .ref a2, .ref a3, .int (nI sz), .int P94, .ref a4, .ref a5, .ref a6, .int (nI wr), .ref a7, .ref a8, .int (nI A94), .int (nI F94), .ref a9, .int (nI ln), .ref a10])), (a3, .inl (D.1 100, 150, .inl (fun k => nI (t k)))), (a1, .inl (D.1 100, 3318, .inl W94))] 0 0 97 [some (.ref a0), some (.int (nI pa)), some (.int (nI ((t pa) - 97))), some (.int (-1))] []
            refine g_goto (tgt := 166) hX dX7_clause_97 (by decide) ?_
            have hbd := hs94
            rw [← qBody_l (w := w) (by omega) (by omega)] at hbd
            have hwd := hw94
            have hF9 : F94 < 100 := flt_F hbd (by decide) (fun e he => qBody_F he)
            have hA9 := hbd.1
            refine g_aload_n hX dX7_clause_166 rfl ?_
            refine g_getf hX dX7_clause_167 fk_X7_138 0 rfl rfl ?_
            refine g_ifN_ne (tgt := 179) hX dX7_clause_170 (by decide) (by omega) (fun h170 => ?_) (fun h170 => ?_)
            · skip
              subst hQ
              exact g_vretU hX dX7_clause_179 (A94, F94, P94, W94) (⟨rfl, flt_bad hbd h170 qClause_bad, hwd⟩) rfl (Nat.le_refl _) (Nat.le_refl _)
            · skip
              refine g_aload_n hX dX7_clause_173 rfl ?_
              refine g_bipush hX dX7_clause_174 kn_b_59 ?_
              refine g_call hX dX7_clause_176 cw_X7_170 (ct_X7_want  (by omega) (by omega) (by omega) (by first | with_reducible assumption | assumption) (by omega)) 0 8 [0, 1] rfl rfl rfl rfl (by decide) rfl (fun ⟨_, _, _⟩ => rfl) ⟨by decide, by decide⟩ (Nat.le_of_ble_eq_true rfl) ⟨Nat.le_refl _, Nat.le_refl _⟩ (fun v u hp => ?_)
              obtain ⟨A176, F176, P176⟩ := u
              obtain ⟨rfl, hs176⟩ := hp
              show G X Q [(a0, .inr (8, [.ref a1, .int (nI uk), .int kp, .int sd, .ref a2, .ref a3, .int (nI sz), .int P176, .ref a4, .ref a5, .ref a6, .int (nI wr), .ref a7, .ref a8, .int (nI A176), .int (nI F176), .ref a9, .int (nI ln), .ref a10])), (a3, .inl (D.1 100, 150, .inl (fun k => nI (t k)))), (a1, .inl (D.1 100, 3318, .inl W94))] 0 0 179 [some (.ref a0), some (.int (nI pa)), some (.int (nI ((t pa) - 97))), some (.int (-1))] []
              subst hQ
              exact g_vretU hX dX7_clause_179 (A176, F176, P176, W94) (⟨rfl, cl_end hbd hs176, hwd⟩) rfl (Nat.le_refl _) (Nat.le_refl _)
        · skip
          have hl1 := hlr (pa + 1) (by omega) (by omega)
          refine g_aload_n hX dX7_clause_60 rfl ?_
          refine g_getf hX dX7_clause_61 fk_X7_16 0 rfl rfl ?_
          refine g_iload_n hX dX7_clause_64 rfl ?_
          refine g_iconst hX dX7_clause_65 kn_i_1 ?_
          refine g_iaddN hX dX7_clause_66 ?_
          refine g_iald hX dX7_clause_67 1 rfl (by decide) (by omega) ?_
          show G X Q [(a0, .inr (8, [.ref a1, .int (nI uk), .int kp, .int sd, .ref a2, .ref a3, .int (nI sz), .int fa, .ref a4, .ref a5, .ref a6, .int (nI wr), .ref a7, .ref a8, .int (nI (sm t sz (pa))), .int (nI 0), .ref a9, .int (nI ln), .ref a10])), (a3, .inl (D.1 100, 150, .inl (fun k => nI (t k)))), (a1, .inl (D.1 100, 3318, .inl w))] 0 0 68 [some (.ref a0), some (.int (nI pa)), some (.int (nI ((t pa) - 97))), none] [.int (nI (t (pa + 1)))]
          refine g_bipush hX dX7_clause_68 kn_b_97 ?_
          refine g_isubN hX dX7_clause_70 (by omega) ?_
          refine g_goto (tgt := 75) hX dX7_clause_71 (by decide) ?_
          refine g_istore_n (L' := [some (.ref a0), some (.int (nI pa)), some (.int (nI ((t pa) - 97))), some (.int (nI ((t (pa + 1)) - 97)))]) hX dX7_clause_75 (by decide) rfl ?_
          refine g_aload_n hX dX7_clause_76 rfl ?_
          refine g_getf hX dX7_clause_77 fk_X7_132 0 rfl rfl ?_
          refine g_iload_n hX dX7_clause_80 rfl ?_
          refine g_iconst hX dX7_clause_81 kn_i_1 ?_
          refine g_iaddN hX dX7_clause_82 ?_
          refine g_icmpN_ne (tgt := 100) hX dX7_clause_83 (by decide) (by omega) (by omega) (fun h83 => ?_) (fun h => absurd h (by omega))
          refine g_aload_n hX dX7_clause_100 rfl ?_
          refine g_getf hX dX7_clause_101 fk_X7_132 0 rfl rfl ?_
          refine g_iload_n hX dX7_clause_104 rfl ?_
          refine g_iconst hX dX7_clause_105 kn_i_2 ?_
          refine g_iaddN hX dX7_clause_106 ?_
          refine g_icmpN_ne (tgt := 132) hX dX7_clause_107 (by decide) (by omega) (by omega) (fun h107 => ?_) (fun h107 => ?_)
          · skip
            refine g_aload_n hX dX7_clause_132 rfl ?_
            refine g_getf hX dX7_clause_133 fk_X7_132 0 rfl rfl ?_
            refine g_iload_n hX dX7_clause_136 rfl ?_
            refine g_icmpN_le (tgt := 160) hX dX7_clause_137 (by decide) (by omega) (by omega) (fun h => absurd h (by omega)) (fun h137 => ?_)
            refine g_aload_n hX dX7_clause_140 rfl ?_
            refine g_aload_n hX dX7_clause_141 rfl ?_
            refine g_getf hX dX7_clause_142 fk_X7_16 0 rfl rfl ?_
            refine g_iload_n hX dX7_clause_145 rfl ?_
            refine g_aload_n hX dX7_clause_146 rfl ?_
            refine g_getf hX dX7_clause_147 fk_X7_132 0 rfl rfl ?_
            refine g_callSRl hX dX7_clause_150 cw_X7_182 (ct_X7_wordOf  (by omega) (by omega) hlr) [1] rfl rfl (by decide) rfl ⟨by decide, by decide⟩ (Nat.le_of_ble_eq_true rfl) (Nat.le_refl _) (Nat.le_refl _) ?_
            refine g_iload_n hX dX7_clause_153 rfl ?_
            refine g_call hX dX7_clause_154 cw_X7_204 (ct_X7_termClause  (by omega) (by omega) (by first | with_reducible assumption | assumption) hlr) 0 8 [0, 1, 2] rfl rfl rfl rfl (by decide) rfl (fun ⟨_, _, _, _⟩ => rfl) ⟨by decide, by decide⟩ (Nat.le_of_ble_eq_true rfl) ⟨Nat.le_refl _, Nat.le_refl _⟩ (fun v u hp => ?_)
            obtain ⟨A154, F154, P154, W154⟩ := u
            obtain ⟨rfl, hs154, hw154⟩ := hp
            show G X Q [(a0, .inr (8, [.ref a1, .int (nI uk), .int kp, .int sd, .ref a2, .ref a3, .int (nI sz), .int P154, .ref a4, .ref a5, .ref a6, .int (nI wr), .ref a7, .ref a8, .int (nI A154), .int (nI F154), .ref a9, .int (nI ln), .ref a10])), (a3, .inl (D.1 100, 150, .inl (fun k => nI (t k)))), (a1, .inl (D.1 100, 3318, .inl W154))] 0 0 157 [some (.ref a0), some (.int (nI pa)), some (.int (nI ((t pa) - 97))), some (.int (nI ((t (pa + 1)) - 97)))] []
            refine g_goto (tgt := 166) hX dX7_clause_157 (by decide) ?_
            have hbd := hs154
            rw [← qBody_t (w := w) (t := t) (sz := sz) (p := pa) (by omega)] at hbd
            have hwd := hw154
            have hF9 : F154 < 100 := flt_F hbd (by decide) (fun e he => qBody_F he)
            have hA9 := hbd.1
            refine g_aload_n hX dX7_clause_166 rfl ?_
            refine g_getf hX dX7_clause_167 fk_X7_138 0 rfl rfl ?_
            refine g_ifN_ne (tgt := 179) hX dX7_clause_170 (by decide) (by omega) (fun h170 => ?_) (fun h170 => ?_)
            · skip
              subst hQ
              exact g_vretU hX dX7_clause_179 (A154, F154, P154, W154) (⟨rfl, flt_bad hbd h170 qClause_bad, hwd⟩) rfl (Nat.le_refl _) (Nat.le_refl _)
            · skip
              refine g_aload_n hX dX7_clause_173 rfl ?_
              refine g_bipush hX dX7_clause_174 kn_b_59 ?_
              refine g_call hX dX7_clause_176 cw_X7_170 (ct_X7_want  (by omega) (by omega) (by omega) (by first | with_reducible assumption | assumption) (by omega)) 0 8 [0, 1] rfl rfl rfl rfl (by decide) rfl (fun ⟨_, _, _⟩ => rfl) ⟨by decide, by decide⟩ (Nat.le_of_ble_eq_true rfl) ⟨Nat.le_refl _, Nat.le_refl _⟩ (fun v u hp => ?_)
              obtain ⟨A176, F176, P176⟩ := u
              obtain ⟨rfl, hs176⟩ := hp
              show G X Q [(a0, .inr (8, [.ref a1, .int (nI uk), .int kp, .int sd, .ref a2, .ref a3, .int (nI sz), .int P176, .ref a4, .ref a5, .ref a6, .int (nI wr), .ref a7, .ref a8, .int (nI A176), .int (nI F176), .ref a9, .int (nI ln), .ref a10])), (a3, .inl (D.1 100, 150, .inl (fun k => nI (t k)))), (a1, .inl (D.1 100, 3318, .inl W154))] 0 0 179 [some (.ref a0), some (.int (nI pa)), some (.int (nI ((t pa) - 97))), some (.int (nI ((t (pa + 1)) - 97)))] []
              subst hQ
              exact g_vretU hX dX7_clause_179 (A176, F176, P176, W154) (⟨rfl, cl_end hbd hs176, hwd⟩) rfl (Nat.le_refl _) (Nat.le_refl _)
          · skip
            refine g_iload_n hX dX7_clause_110 rfl ?_
            refine g_bipush hX dX7_clause_111 kn_b_8 ?_
            refine g_icmpN_ge (tgt := 132) hX dX7_clause_113 (by decide) (by omega) (by omega) (fun h113 => ?_) (fun h113 => ?_)
            · skip
              refine g_aload_n hX dX7_clause_132 rfl ?_
              refine g_getf hX dX7_clause_133 fk_X7_132 0 rfl rfl ?_
              refine g_iload_n hX dX7_clause_136 rfl ?_
              refine g_icmpN_le (tgt := 160) hX dX7_clause_137 (by decide) (by omega) (by omega) (fun h => absurd h (by omega)) (fun h137 => ?_)
              refine g_aload_n hX dX7_clause_140 rfl ?_
              refine g_aload_n hX dX7_clause_141 rfl ?_
              refine g_getf hX dX7_clause_142 fk_X7_16 0 rfl rfl ?_
              refine g_iload_n hX dX7_clause_145 rfl ?_
              refine g_aload_n hX dX7_clause_146 rfl ?_
              refine g_getf hX dX7_clause_147 fk_X7_132 0 rfl rfl ?_
              refine g_callSRl hX dX7_clause_150 cw_X7_182 (ct_X7_wordOf  (by omega) (by omega) hlr) [1] rfl rfl (by decide) rfl ⟨by decide, by decide⟩ (Nat.le_of_ble_eq_true rfl) (Nat.le_refl _) (Nat.le_refl _) ?_
              refine g_iload_n hX dX7_clause_153 rfl ?_
              refine g_call hX dX7_clause_154 cw_X7_204 (ct_X7_termClause  (by omega) (by omega) (by first | with_reducible assumption | assumption) hlr) 0 8 [0, 1, 2] rfl rfl rfl rfl (by decide) rfl (fun ⟨_, _, _, _⟩ => rfl) ⟨by decide, by decide⟩ (Nat.le_of_ble_eq_true rfl) ⟨Nat.le_refl _, Nat.le_refl _⟩ (fun v u hp => ?_)
              obtain ⟨A154, F154, P154, W154⟩ := u
              obtain ⟨rfl, hs154, hw154⟩ := hp
              show G X Q [(a0, .inr (8, [.ref a1, .int (nI uk), .int kp, .int sd, .ref a2, .ref a3, .int (nI sz), .int P154, .ref a4, .ref a5, .ref a6, .int (nI wr), .ref a7, .ref a8, .int (nI A154), .int (nI F154), .ref a9, .int (nI ln), .ref a10])), (a3, .inl (D.1 100, 150, .inl (fun k => nI (t k)))), (a1, .inl (D.1 100, 3318, .inl W154))] 0 0 157 [some (.ref a0), some (.int (nI pa)), some (.int (nI ((t pa) - 97))), some (.int (nI ((t (pa + 1)) - 97)))] []
              refine g_goto (tgt := 166) hX dX7_clause_157 (by decide) ?_
              have hbd := hs154
              rw [← qBody_t (w := w) (t := t) (sz := sz) (p := pa) (by omega)] at hbd
              have hwd := hw154
              have hF9 : F154 < 100 := flt_F hbd (by decide) (fun e he => qBody_F he)
              have hA9 := hbd.1
              refine g_aload_n hX dX7_clause_166 rfl ?_
              refine g_getf hX dX7_clause_167 fk_X7_138 0 rfl rfl ?_
              refine g_ifN_ne (tgt := 179) hX dX7_clause_170 (by decide) (by omega) (fun h170 => ?_) (fun h170 => ?_)
              · skip
                subst hQ
                exact g_vretU hX dX7_clause_179 (A154, F154, P154, W154) (⟨rfl, flt_bad hbd h170 qClause_bad, hwd⟩) rfl (Nat.le_refl _) (Nat.le_refl _)
              · skip
                refine g_aload_n hX dX7_clause_173 rfl ?_
                refine g_bipush hX dX7_clause_174 kn_b_59 ?_
                refine g_call hX dX7_clause_176 cw_X7_170 (ct_X7_want  (by omega) (by omega) (by omega) (by first | with_reducible assumption | assumption) (by omega)) 0 8 [0, 1] rfl rfl rfl rfl (by decide) rfl (fun ⟨_, _, _⟩ => rfl) ⟨by decide, by decide⟩ (Nat.le_of_ble_eq_true rfl) ⟨Nat.le_refl _, Nat.le_refl _⟩ (fun v u hp => ?_)
                obtain ⟨A176, F176, P176⟩ := u
                obtain ⟨rfl, hs176⟩ := hp
                show G X Q [(a0, .inr (8, [.ref a1, .int (nI uk), .int kp, .int sd, .ref a2, .ref a3, .int (nI sz), .int P176, .ref a4, .ref a5, .ref a6, .int (nI wr), .ref a7, .ref a8, .int (nI A176), .int (nI F176), .ref a9, .int (nI ln), .ref a10])), (a3, .inl (D.1 100, 150, .inl (fun k => nI (t k)))), (a1, .inl (D.1 100, 3318, .inl W154))] 0 0 179 [some (.ref a0), some (.int (nI pa)), some (.int (nI ((t pa) - 97))), some (.int (nI ((t (pa + 1)) - 97)))] []
                subst hQ
                exact g_vretU hX dX7_clause_179 (A176, F176, P176, W154) (⟨rfl, cl_end hbd hs176, hwd⟩) rfl (Nat.le_refl _) (Nat.le_refl _)
            · skip
              refine g_iload_n hX dX7_clause_116 rfl ?_
              refine g_bipush hX dX7_clause_117 kn_b_8 ?_
              refine g_icmpN_ge (tgt := 132) hX dX7_clause_119 (by decide) (by omega) (by omega) (fun h119 => ?_) (fun h119 => ?_)
              · skip
                refine g_aload_n hX dX7_clause_132 rfl ?_
                refine g_getf hX dX7_clause_133 fk_X7_132 0 rfl rfl ?_
                refine g_iload_n hX dX7_clause_136 rfl ?_
                refine g_icmpN_le (tgt := 160) hX dX7_clause_137 (by decide) (by omega) (by omega) (fun h => absurd h (by omega)) (fun h137 => ?_)
                refine g_aload_n hX dX7_clause_140 rfl ?_
                refine g_aload_n hX dX7_clause_141 rfl ?_
                refine g_getf hX dX7_clause_142 fk_X7_16 0 rfl rfl ?_
                refine g_iload_n hX dX7_clause_145 rfl ?_
                refine g_aload_n hX dX7_clause_146 rfl ?_
                refine g_getf hX dX7_clause_147 fk_X7_132 0 rfl rfl ?_
                refine g_callSRl hX dX7_clause_150 cw_X7_182 (ct_X7_wordOf  (by omega) (by omega) hlr) [1] rfl rfl (by decide) rfl ⟨by decide, by decide⟩ (Nat.le_of_ble_eq_true rfl) (Nat.le_refl _) (Nat.le_refl _) ?_
                refine g_iload_n hX dX7_clause_153 rfl ?_
                refine g_call hX dX7_clause_154 cw_X7_204 (ct_X7_termClause  (by omega) (by omega) (by first | with_reducible assumption | assumption) hlr) 0 8 [0, 1, 2] rfl rfl rfl rfl (by decide) rfl (fun ⟨_, _, _, _⟩ => rfl) ⟨by decide, by decide⟩ (Nat.le_of_ble_eq_true rfl) ⟨Nat.le_refl _, Nat.le_refl _⟩ (fun v u hp => ?_)
                obtain ⟨A154, F154, P154, W154⟩ := u
                obtain ⟨rfl, hs154, hw154⟩ := hp
                show G X Q [(a0, .inr (8, [.ref a1, .int (nI uk), .int kp, .int sd, .ref a2, .ref a3, .int (nI sz), .int P154, .ref a4, .ref a5, .ref a6, .int (nI wr), .ref a7, .ref a8, .int (nI A154), .int (nI F154), .ref a9, .int (nI ln), .ref a10])), (a3, .inl (D.1 100, 150, .inl (fun k => nI (t k)))), (a1, .inl (D.1 100, 3318, .inl W154))] 0 0 157 [some (.ref a0), some (.int (nI pa)), some (.int (nI ((t pa) - 97))), some (.int (nI ((t (pa + 1)) - 97)))] []
                refine g_goto (tgt := 166) hX dX7_clause_157 (by decide) ?_
                have hbd := hs154
                rw [← qBody_t (w := w) (t := t) (sz := sz) (p := pa) (by omega)] at hbd
                have hwd := hw154
                have hF9 : F154 < 100 := flt_F hbd (by decide) (fun e he => qBody_F he)
                have hA9 := hbd.1
                refine g_aload_n hX dX7_clause_166 rfl ?_
                refine g_getf hX dX7_clause_167 fk_X7_138 0 rfl rfl ?_
                refine g_ifN_ne (tgt := 179) hX dX7_clause_170 (by decide) (by omega) (fun h170 => ?_) (fun h170 => ?_)
                · skip
                  subst hQ
                  exact g_vretU hX dX7_clause_179 (A154, F154, P154, W154) (⟨rfl, flt_bad hbd h170 qClause_bad, hwd⟩) rfl (Nat.le_refl _) (Nat.le_refl _)
                · skip
                  refine g_aload_n hX dX7_clause_173 rfl ?_
                  refine g_bipush hX dX7_clause_174 kn_b_59 ?_
                  refine g_call hX dX7_clause_176 cw_X7_170 (ct_X7_want  (by omega) (by omega) (by omega) (by first | with_reducible assumption | assumption) (by omega)) 0 8 [0, 1] rfl rfl rfl rfl (by decide) rfl (fun ⟨_, _, _⟩ => rfl) ⟨by decide, by decide⟩ (Nat.le_of_ble_eq_true rfl) ⟨Nat.le_refl _, Nat.le_refl _⟩ (fun v u hp => ?_)
                  obtain ⟨A176, F176, P176⟩ := u
                  obtain ⟨rfl, hs176⟩ := hp
                  show G X Q [(a0, .inr (8, [.ref a1, .int (nI uk), .int kp, .int sd, .ref a2, .ref a3, .int (nI sz), .int P176, .ref a4, .ref a5, .ref a6, .int (nI wr), .ref a7, .ref a8, .int (nI A176), .int (nI F176), .ref a9, .int (nI ln), .ref a10])), (a3, .inl (D.1 100, 150, .inl (fun k => nI (t k)))), (a1, .inl (D.1 100, 3318, .inl W154))] 0 0 179 [some (.ref a0), some (.int (nI pa)), some (.int (nI ((t pa) - 97))), some (.int (nI ((t (pa + 1)) - 97)))] []
                  subst hQ
                  exact g_vretU hX dX7_clause_179 (A176, F176, P176, W154) (⟨rfl, cl_end hbd hs176, hwd⟩) rfl (Nat.le_refl _) (Nat.le_refl _)
              · skip
                refine g_aload_n hX dX7_clause_122 rfl ?_
                refine g_iload_n hX dX7_clause_123 rfl ?_
                refine g_iload_n hX dX7_clause_124 rfl ?_
                refine g_iload_n hX dX7_clause_125 rfl ?_
                refine g_call hX dX7_clause_126 cw_X7_200 (ct_X7_pairClause  (by omega) (by omega) (by first | with_reducible assumption | assumption) (by omega) (by omega)) 0 8 [0, 1, 2] rfl rfl rfl rfl (by decide) rfl (fun ⟨_, _, _, _⟩ => rfl) ⟨by decide, by decide⟩ (Nat.le_of_ble_eq_true rfl) ⟨Nat.le_refl _, Nat.le_refl _⟩ (fun v u hp => ?_)
                obtain ⟨A126, F126, P126, W126⟩ := u
                obtain ⟨rfl, hs126, hw126⟩ := hp
                show G X Q [(a0, .inr (8, [.ref a1, .int (nI uk), .int kp, .int sd, .ref a2, .ref a3, .int (nI sz), .int P126, .ref a4, .ref a5, .ref a6, .int (nI wr), .ref a7, .ref a8, .int (nI A126), .int (nI F126), .ref a9, .int (nI ln), .ref a10])), (a3, .inl (D.1 100, 150, .inl (fun k => nI (t k)))), (a1, .inl (D.1 100, 3318, .inl W126))] 0 0 129 [some (.ref a0), some (.int (nI pa)), some (.int (nI ((t pa) - 97))), some (.int (nI ((t (pa + 1)) - 97)))] []
                refine g_goto (tgt := 166) hX dX7_clause_129 (by decide) ?_
                have hbd := hs126
                rw [show sm t sz pa = pa + 2 by omega, ← qBody_p (w := w) (by omega) (by omega) (by omega)] at hbd
                have hwd := hw126
                have hF9 : F126 < 100 := flt_F hbd (by decide) (fun e he => qBody_F he)
                have hA9 := hbd.1
                refine g_aload_n hX dX7_clause_166 rfl ?_
                refine g_getf hX dX7_clause_167 fk_X7_138 0 rfl rfl ?_
                refine g_ifN_ne (tgt := 179) hX dX7_clause_170 (by decide) (by omega) (fun h170 => ?_) (fun h170 => ?_)
                · skip
                  subst hQ
                  exact g_vretU hX dX7_clause_179 (A126, F126, P126, W126) (⟨rfl, flt_bad hbd h170 qClause_bad, hwd⟩) rfl (Nat.le_refl _) (Nat.le_refl _)
                · skip
                  refine g_aload_n hX dX7_clause_173 rfl ?_
                  refine g_bipush hX dX7_clause_174 kn_b_59 ?_
                  refine g_call hX dX7_clause_176 cw_X7_170 (ct_X7_want  (by omega) (by omega) (by omega) (by first | with_reducible assumption | assumption) (by omega)) 0 8 [0, 1] rfl rfl rfl rfl (by decide) rfl (fun ⟨_, _, _⟩ => rfl) ⟨by decide, by decide⟩ (Nat.le_of_ble_eq_true rfl) ⟨Nat.le_refl _, Nat.le_refl _⟩ (fun v u hp => ?_)
                  obtain ⟨A176, F176, P176⟩ := u
                  obtain ⟨rfl, hs176⟩ := hp
                  show G X Q [(a0, .inr (8, [.ref a1, .int (nI uk), .int kp, .int sd, .ref a2, .ref a3, .int (nI sz), .int P176, .ref a4, .ref a5, .ref a6, .int (nI wr), .ref a7, .ref a8, .int (nI A176), .int (nI F176), .ref a9, .int (nI ln), .ref a10])), (a3, .inl (D.1 100, 150, .inl (fun k => nI (t k)))), (a1, .inl (D.1 100, 3318, .inl W126))] 0 0 179 [some (.ref a0), some (.int (nI pa)), some (.int (nI ((t pa) - 97))), some (.int (nI ((t (pa + 1)) - 97)))] []
                  subst hQ
                  exact g_vretU hX dX7_clause_179 (A176, F176, P176, W126) (⟨rfl, cl_end hbd hs176, hwd⟩) rfl (Nat.le_refl _) (Nat.le_refl _)
    · skip
      have hsm := h12
      have hps := (smlO_in hsm).1
      refine g_aload_n hX dX7_clause_15 rfl ?_
      refine g_dup hX dX7_clause_16 rfl ?_
      refine g_getf hX dX7_clause_17 fk_X7_132 0 rfl rfl ?_
      refine g_iconst hX dX7_clause_20 kn_i_1 ?_
      refine g_iaddN hX dX7_clause_21 ?_
      refine g_puti (ws' := [(a0, .inr (8, [.ref a1, .int (nI uk), .int kp, .int sd, .ref a2, .ref a3, .int (nI sz), .int fa, .ref a4, .ref a5, .ref a6, .int (nI wr), .ref a7, .ref a8, .int (nI (p + 1)), .int (nI 0), .ref a9, .int (nI ln), .ref a10])), (a3, .inl (D.1 100, 150, .inl (fun k => nI (t k)))), (a1, .inl (D.1 100, 3318, .inl w))]) hX dX7_clause_22 fp_X7_132 0 rfl (Nat.le_of_ble_eq_true rfl) rfl ?_
      refine g_goto (tgt := 5) hX dX7_clause_25 (by decide) ?_
      exact g_fin (ih5 (by omega) (hr.trans (sm_step hsm)) (by omega)) (rfl) rfl ⟨rfl, rfl, trivial⟩
  exact g_fin (loop5 pa (by omega) rfl (Nat.le_refl _)) (rfl) rfl ⟨rfl, rfl, trivial⟩
