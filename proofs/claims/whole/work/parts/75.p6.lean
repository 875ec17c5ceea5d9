theorem wordTo_0 {w x : Nat → Int32} : nI 1000 = wordTo w x 0 := by rw [wordTo]
set_option maxRecDepth 100000 in
set_option maxHeartbeats 4000000 in
theorem ct_X7_word {l : Launch} {D : va_G} {a0 a1 a2 a3 a4 a5 a6 a7 a8 a9 a10 uk sz wr pa fl ln : Nat} {kp sd fa : Int32} {w q cl wl : Nat → Int32} {n a b c d e : Int32}  : Ct (S := Int32 × (Nat → Int32) × (Nat → Int32) × (Nat → Int32)) l D yX7_word cX7_word 9 (some .int) 9 215 0 0 [.ref a0, .int n, .int a, .int b, .int c, .int d, .int e] [(a0, .inr (8, [.ref a1, .int (nI uk), .int kp, .int sd, .ref a2, .ref a3, .int (nI sz), .int fa, .ref a4, .ref a5, .ref a6, .int (nI wr), .ref a7, .ref a8, .int (nI pa), .int (nI fl), .ref a9, .int (nI ln), .ref a10])), (a1, .inl (D.1 100, 3318, .inl w)), (a7, .inl (D.1 100, 16, .inl q)), (a8, .inl (D.1 100, 2, .inl cl)), (a10, .inl (D.1 100, 5, .inl wl))] (fun (r : Option Value) (u : Int32 × (Nat → Int32) × (Nat → Int32) × (Nat → Int32)) => match u with | (V, Qn, Cn, Wl) => r = (some (.int V)) ∧ (V = wordV w n a b c d e)) (fun (u : Int32 × (Nat → Int32) × (Nat → Int32) × (Nat → Int32)) => match u with | (V, Qn, Cn, Wl) => ([(a0, .inr (8, [.ref a1, .int (nI uk), .int kp, .int sd, .ref a2, .ref a3, .int (nI sz), .int fa, .ref a4, .ref a5, .ref a6, .int (nI wr), .ref a7, .ref a8, .int (nI pa), .int (nI fl), .ref a9, .int (nI ln), .ref a10])), (a1, .inl (D.1 100, 3318, .inl w)), (a7, .inl (D.1 100, 16, .inl Qn)), (a8, .inl (D.1 100, 2, .inl Cn)), (a10, .inl (D.1 100, 5, .inl Wl))] : va_W)) := by
  refine Ct.ofG (by decide) (Nat.le_of_ble_eq_true rfl) ?_
  intro X hX
  have hX : CX X l D RX7 "word" cX7_word 9 (some .int) 9 215 0 0 := hX
  show G X (QM X 0 0 (fun (r : Option Value) (u : Int32 × (Nat → Int32) × (Nat → Int32) × (Nat → Int32)) => match u with | (V, Qn, Cn, Wl) => r = (some (.int V)) ∧ (V = wordV w n a b c d e)) (fun (u : Int32 × (Nat → Int32) × (Nat → Int32) × (Nat → Int32)) => match u with | (V, Qn, Cn, Wl) => ([(a0, .inr (8, [.ref a1, .int (nI uk), .int kp, .int sd, .ref a2, .ref a3, .int (nI sz), .int fa, .ref a4, .ref a5, .ref a6, .int (nI wr), .ref a7, .ref a8, .int (nI pa), .int (nI fl), .ref a9, .int (nI ln), .ref a10])), (a1, .inl (D.1 100, 3318, .inl w)), (a7, .inl (D.1 100, 16, .inl Qn)), (a8, .inl (D.1 100, 2, .inl Cn)), (a10, .inl (D.1 100, 5, .inl Wl))] : va_W))) [(a0, .inr (8, [.ref a1, .int (nI uk), .int kp, .int sd, .ref a2, .ref a3, .int (nI sz), .int fa, .ref a4, .ref a5, .ref a6, .int (nI wr), .ref a7, .ref a8, .int (nI pa), .int (nI fl), .ref a9, .int (nI ln), .ref a10])), (a1, .inl (D.1 100, 3318, .inl w)), (a7, .inl (D.1 100, 16, .inl q)), (a8, .inl (D.1 100, 2, .inl cl)), (a10, .inl (D.1 100, 5, .inl wl))] 0 0 0 [some (.ref a0), some (.int n), some (.int a), some (.int b), some (.int c), some (.int d), some (.int e), none, none] []
  generalize hQ : QM X 0 0 (fun (r : Option Value) (u : Int32 × (Nat → Int32) × (Nat → Int32) × (Nat → Int32)) => match u with | (V, Qn, Cn, Wl) => r = (some (.int V)) ∧ (V = wordV w n a b c d e)) (fun (u : Int32 × (Nat → Int32) × (Nat → Int32) × (Nat → Int32)) => match u with | (V, Qn, Cn, Wl) => ([(a0, .inr (8, [.ref a1, .int (nI uk), .int kp, .int sd, .ref a2, .ref a3, .int (nI sz), .int fa, .ref a4, .ref a5, .ref a6, .int (nI wr), .ref a7, .ref a8, .int (nI pa), .int (nI fl), .ref a9, .int (nI ln), .ref a10])), (a1, .inl (D.1 100, 3318, .inl w)), (a7, .inl (D.1 100, 16, .inl Qn)), (a8, .inl (D.1 100, 2, .inl Cn)), (a10, .inl (D.1 100, 5, .inl Wl))] : va_W)) = Q
  refine g_iload_n hX dX7_word_0 rfl ?_
  refine g_i2l hX dX7_word_1 ?_
  refine g_lconst (v := 1) hX dX7_word_2 rfl ?_
  refine g_ldc2 hX dX7_word_3 kc_X7_266 ?_
  refine g_callSRi hX dX7_word_6 cw_X7_53 ct_X7_in [] rfl rfl (by decide) rfl ⟨by decide, by decide⟩ (Nat.le_of_ble_eq_true rfl) (Nat.le_refl _) (Nat.le_refl _) ?_
  refine g_ifb_ne (tgt := 15) hX dX7_word_9 (by decide) (fun h9 => ?_) (fun h9 => ?_)
  · skip
    obtain ⟨n1, gn1, hn1, en1⟩ := inT1 (n := 5) (by decide) h9
    subst en1
    refine g_aload_n hX dX7_word_15 rfl ?_
    refine g_getf hX dX7_word_16 fk_X7_41 0 rfl rfl ?_
    refine g_iconst hX dX7_word_19 kn_i_0 ?_
    refine g_iload_n hX dX7_word_20 rfl ?_
    refine g_iast (ws' := [(a0, .inr (8, [.ref a1, .int (nI uk), .int kp, .int sd, .ref a2, .ref a3, .int (nI sz), .int fa, .ref a4, .ref a5, .ref a6, .int (nI wr), .ref a7, .ref a8, .int (nI pa), .int (nI fl), .ref a9, .int (nI ln), .ref a10])), (a1, .inl (D.1 100, 3318, .inl w)), (a7, .inl (D.1 100, 16, .inl q)), (a8, .inl (D.1 100, 2, .inl cl)), (a10, .inl (D.1 100, 5, .inl (upd wl 0 a)))]) hX dX7_word_21 4 rfl (by decide) (by omega) rfl ?_
    refine g_aload_n hX dX7_word_22 rfl ?_
    refine g_getf hX dX7_word_23 fk_X7_41 0 rfl rfl ?_
    refine g_iconst hX dX7_word_26 kn_i_1 ?_
    refine g_iload_n hX dX7_word_27 rfl ?_
    refine g_iast (ws' := [(a0, .inr (8, [.ref a1, .int (nI uk), .int kp, .int sd, .ref a2, .ref a3, .int (nI sz), .int fa, .ref a4, .ref a5, .ref a6, .int (nI wr), .ref a7, .ref a8, .int (nI pa), .int (nI fl), .ref a9, .int (nI ln), .ref a10])), (a1, .inl (D.1 100, 3318, .inl w)), (a7, .inl (D.1 100, 16, .inl q)), (a8, .inl (D.1 100, 2, .inl cl)), (a10, .inl (D.1 100, 5, .inl (upd (upd wl 0 a) 1 b)))]) hX dX7_word_28 4 rfl (by decide) (by omega) rfl ?_
    refine g_aload_n hX dX7_word_29 rfl ?_
    refine g_getf hX dX7_word_30 fk_X7_41 0 rfl rfl ?_
    refine g_iconst hX dX7_word_33 kn_i_2 ?_
    refine g_iload hX dX7_word_34 rfl ?_
    refine g_iast (ws' := [(a0, .inr (8, [.ref a1, .int (nI uk), .int kp, .int sd, .ref a2, .ref a3, .int (nI sz), .int fa, .ref a4, .ref a5, .ref a6, .int (nI wr), .ref a7, .ref a8, .int (nI pa), .int (nI fl), .ref a9, .int (nI ln), .ref a10])), (a1, .inl (D.1 100, 3318, .inl w)), (a7, .inl (D.1 100, 16, .inl q)), (a8, .inl (D.1 100, 2, .inl cl)), (a10, .inl (D.1 100, 5, .inl (upd (upd (upd wl 0 a) 1 b) 2 c)))]) hX dX7_word_36 4 rfl (by decide) (by omega) rfl ?_
    refine g_aload_n hX dX7_word_37 rfl ?_
    refine g_getf hX dX7_word_38 fk_X7_41 0 rfl rfl ?_
    refine g_iconst hX dX7_word_41 kn_i_3 ?_
    refine g_iload hX dX7_word_42 rfl ?_
    refine g_iast (ws' := [(a0, .inr (8, [.ref a1, .int (nI uk), .int kp, .int sd, .ref a2, .ref a3, .int (nI sz), .int fa, .ref a4, .ref a5, .ref a6, .int (nI wr), .ref a7, .ref a8, .int (nI pa), .int (nI fl), .ref a9, .int (nI ln), .ref a10])), (a1, .inl (D.1 100, 3318, .inl w)), (a7, .inl (D.1 100, 16, .inl q)), (a8, .inl (D.1 100, 2, .inl cl)), (a10, .inl (D.1 100, 5, .inl (upd (upd (upd (upd wl 0 a) 1 b) 2 c) 3 d)))]) hX dX7_word_44 4 rfl (by decide) (by omega) rfl ?_
    refine g_aload_n hX dX7_word_45 rfl ?_
    refine g_getf hX dX7_word_46 fk_X7_41 0 rfl rfl ?_
    refine g_iconst hX dX7_word_49 kn_i_4 ?_
    refine g_iload hX dX7_word_50 rfl ?_
    refine g_iast (ws' := [(a0, .inr (8, [.ref a1, .int (nI uk), .int kp, .int sd, .ref a2, .ref a3, .int (nI sz), .int fa, .ref a4, .ref a5, .ref a6, .int (nI wr), .ref a7, .ref a8, .int (nI pa), .int (nI fl), .ref a9, .int (nI ln), .ref a10])), (a1, .inl (D.1 100, 3318, .inl w)), (a7, .inl (D.1 100, 16, .inl q)), (a8, .inl (D.1 100, 2, .inl cl)), (a10, .inl (D.1 100, 5, .inl (upd (upd (upd (upd (upd wl 0 a) 1 b) 2 c) 3 d) 4 e)))]) hX dX7_word_52 4 rfl (by decide) (by omega) rfl ?_
    show G X Q [(a0, .inr (8, [.ref a1, .int (nI uk), .int kp, .int sd, .ref a2, .ref a3, .int (nI sz), .int fa, .ref a4, .ref a5, .ref a6, .int (nI wr), .ref a7, .ref a8, .int (nI pa), .int (nI fl), .ref a9, .int (nI ln), .ref a10])), (a1, .inl (D.1 100, 3318, .inl w)), (a7, .inl (D.1 100, 16, .inl q)), (a8, .inl (D.1 100, 2, .inl cl)), (a10, .inl (D.1 100, 5, .inl (wlU wl a b c d e)))] 0 0 53 [some (.ref a0), some (.int (nI n1)), some (.int a), some (.int b), some (.int c), some (.int d), some (.int e), none, none] []
    have hwl := wlU_X (f := wl) (a := a) (b := b) (c := c) (d := d) (e := e)
    refine g_iconst hX dX7_word_53 kn_i_0 ?_
    refine g_istore (L' := [some (.ref a0), some (.int (nI n1)), some (.int a), some (.int b), some (.int c), some (.int d), some (.int e), some (.int (nI 0)), none]) hX dX7_word_54 (by decide) rfl ?_
    have loop56 : ∀ k : Nat, k ≤ n1 → (allKn w (wlX a b c d e) k = true) → G X Q [(a0, .inr (8, [.ref a1, .int (nI uk), .int kp, .int sd, .ref a2, .ref a3, .int (nI sz), .int fa, .ref a4, .ref a5, .ref a6, .int (nI wr), .ref a7, .ref a8, .int (nI pa), .int (nI fl), .ref a9, .int (nI ln), .ref a10])), (a1, .inl (D.1 100, 3318, .inl w)), (a7, .inl (D.1 100, 16, .inl q)), (a8, .inl (D.1 100, 2, .inl cl)), (a10, .inl (D.1 100, 5, .inl (wlU wl a b c d e)))] 0 0 56 [some (.ref a0), some (.int (nI n1)), some (.int a), some (.int b), some (.int c), some (.int d), some (.int e), some (.int (nI k)), none] [] := by
      refine loopN n1 (fun k hh56 ih56 => ?_)
      intro hall
      refine g_iload hX dX7_word_56 rfl ?_
      refine g_iload_n hX dX7_word_58 rfl ?_
      refine g_icmpN_ge (tgt := 85) hX dX7_word_59 (by decide) (by omega) (by omega) (fun h59 => ?_) (fun h59 => ?_)
      · skip
        obtain rfl : n1 = k := by omega
        refine g_aload_n hX dX7_word_85 rfl ?_
        refine g_callFv (ws' := [(a0, .inr (8, [.ref a1, .int (nI uk), .int kp, .int sd, .ref a2, .ref a3, .int (nI sz), .int fa, .ref a4, .ref a5, .ref a6, .int (nI wr), .ref a7, .ref a8, .int (nI pa), .int (nI fl), .ref a9, .int (nI ln), .ref a10])), (a1, .inl (D.1 100, 3318, .inl w)), (a7, .inl (D.1 100, 16, .inl (layQ w q))), (a8, .inl (D.1 100, 2, .inl (layC w cl))), (a10, .inl (D.1 100, 5, .inl (wlU wl a b c d e)))]) hX dX7_word_86 cw_X7_233 (ct_X7_layClasses  (by first | with_reducible assumption | rfl) (by first | with_reducible assumption | rfl) (by first | with_reducible assumption | rfl)) 0 8 [0, 1, 2, 3] rfl rfl rfl rfl (by decide) rfl rfl ⟨by decide, by decide⟩ (Nat.le_of_ble_eq_true rfl) (Nat.le_refl _) (Nat.le_refl _) rfl ?_
        refine g_sipush hX dX7_word_89 kn_s_1000 ?_
        refine g_istore (L' := [some (.ref a0), some (.int (nI n1)), some (.int a), some (.int b), some (.int c), some (.int d), some (.int e), some (.int (nI 1000)), none]) hX dX7_word_92 (by decide) rfl ?_
        refine g_iconst hX dX7_word_94 kn_i_0 ?_
        refine g_istore (L' := [some (.ref a0), some (.int (nI n1)), some (.int a), some (.int b), some (.int c), some (.int d), some (.int e), some (.int (nI 1000)), some (.int (nI 0))]) hX dX7_word_95 (by decide) rfl ?_
        have loop97 : ∀ m : Nat, m ≤ n1 → G X Q [(a0, .inr (8, [.ref a1, .int (nI uk), .int kp, .int sd, .ref a2, .ref a3, .int (nI sz), .int fa, .ref a4, .ref a5, .ref a6, .int (nI wr), .ref a7, .ref a8, .int (nI pa), .int (nI fl), .ref a9, .int (nI ln), .ref a10])), (a1, .inl (D.1 100, 3318, .inl w)), (a7, .inl (D.1 100, 16, .inl (layQ w q))), (a8, .inl (D.1 100, 2, .inl (layC w cl))), (a10, .inl (D.1 100, 5, .inl (wlU wl a b c d e)))] 0 0 97 [some (.ref a0), some (.int (nI n1)), some (.int a), some (.int b), some (.int c), some (.int d), some (.int e), some (.int (wordTo w (wlX a b c d e) m)), some (.int (nI m))] [] := by
          refine loopN n1 (fun m hh97 ih97 => ?_)
          refine g_iload hX dX7_word_97 rfl ?_
          refine g_iload_n hX dX7_word_99 rfl ?_
          refine g_icmpN_ge (tgt := 162) hX dX7_word_100 (by decide) (by omega) (by omega) (fun h100 => ?_) (fun h100 => ?_)
          · skip
            obtain rfl : n1 = m := by omega
            refine g_iload hX dX7_word_162 rfl ?_
            subst hQ
            exact g_zretU hX dX7_word_164 (vp_nar_int _) (wordTo w (wlX a b c d e) n1, layQ w q, layC w cl, wlU wl a b c d e) (⟨rfl, (wordV_ok gn1 hn1 hall).symm⟩) rfl (Nat.le_refl _) (Nat.le_refl _)
          · skip
            obtain ⟨p1, hp1, ep1, kp1⟩ := isKn_in (allKn_get hall m (by omega))
            refine g_iload hX dX7_word_103 rfl ?_
            refine g_aload_n hX dX7_word_105 rfl ?_
            refine g_getf hX dX7_word_106 fk_X7_7 0 rfl rfl ?_
            refine g_bipush hX dX7_word_109 kn_b_86 ?_
            refine g_aload_n hX dX7_word_111 rfl ?_
            refine g_getf hX dX7_word_112 fk_X7_41 0 rfl rfl ?_
            refine g_iload hX dX7_word_115 rfl ?_
            refine g_iald hX dX7_word_117 4 rfl (by decide) (by omega) ?_
            refine g_top (v' := nI p1) ((hwl m (by omega)).trans ep1) ?_
            refine g_iaddN hX dX7_word_118 ?_
            refine g_iald hX dX7_word_119 1 rfl (by decide) (by omega) ?_
            refine g_iload hX dX7_word_120 rfl ?_
            refine g_ifN_le (tgt := 151) hX dX7_word_122 (by decide) (by omega) (fun h122 => ?_) (fun h122 => ?_)
            · skip
              refine g_iconst hX dX7_word_151 kn_i_0 ?_
              refine g_iadd hX dX7_word_152 ?_
              refine g_iadd hX dX7_word_153 ?_
              refine g_istore (L' := [some (.ref a0), some (.int (nI n1)), some (.int a), some (.int b), some (.int c), some (.int d), some (.int e), some (.int ((wordTo w (wlX a b c d e) m) + ((w (86 + p1)) + (nI 0)))), some (.int (nI m))]) hX dX7_word_154 (by decide) rfl ?_
              refine g_iincN (L' := [some (.ref a0), some (.int (nI n1)), some (.int a), some (.int b), some (.int c), some (.int d), some (.int e), some (.int ((wordTo w (wlX a b c d e) m) + ((w (86 + p1)) + (nI 0)))), some (.int (nI (m + 1)))]) hX dX7_word_156 rfl (by decide) rfl ?_
              refine g_goto (tgt := 97) hX dX7_word_159 (by decide) ?_
              exact g_fin (ih97 (by omega) ) (rfl) rfl ⟨rfl, rfl, rfl, rfl, rfl, rfl, rfl, (congrArg some (congrArg Value.int (wordTo_z h122 hp1 ep1))), rfl, trivial⟩
            · skip
              obtain ⟨r1, hr1, er1, kr1⟩ := isKn_in (allKn_get hall (m - 1) (by omega))
              refine g_aload_n hX dX7_word_125 rfl ?_
              refine g_aload_n hX dX7_word_126 rfl ?_
              refine g_getf hX dX7_word_127 fk_X7_41 0 rfl rfl ?_
              refine g_iload hX dX7_word_130 rfl ?_
              refine g_iconst hX dX7_word_132 kn_i_1 ?_
              refine g_isubN hX dX7_word_133 (by omega) ?_
              refine g_iald hX dX7_word_134 4 rfl (by decide) (by omega) ?_
              refine g_top (v' := nI r1) ((hwl (m - 1) (by omega)).trans er1) ?_
              refine g_aload_n hX dX7_word_135 rfl ?_
              refine g_getf hX dX7_word_136 fk_X7_41 0 rfl rfl ?_
              refine g_iload hX dX7_word_139 rfl ?_
              refine g_iald hX dX7_word_141 4 rfl (by decide) (by omega) ?_
              refine g_top (v' := nI p1) ((hwl m (by omega)).trans ep1) ?_
              refine g_callRi hX dX7_word_142 cw_X7_129 (ct_X7_gapOf  (by first | with_reducible assumption | rfl) (by first | with_reducible assumption | rfl) (by omega) (by omega) (below_ne_self hr1 hp1 kr1 kp1)) 0 8 [0, 1, 2] rfl rfl rfl rfl (by decide) rfl ⟨by decide, by decide⟩ (Nat.le_of_ble_eq_true rfl) (Nat.le_refl _) (Nat.le_refl _) ?_
              refine g_bipush hX dX7_word_145 kn_b_100 ?_
              refine g_isub hX dX7_word_147 ?_
              refine g_goto (tgt := 152) hX dX7_word_148 (by decide) ?_
              refine g_iadd hX dX7_word_152 ?_
              refine g_iadd hX dX7_word_153 ?_
              refine g_istore (L' := [some (.ref a0), some (.int (nI n1)), some (.int a), some (.int b), some (.int c), some (.int d), some (.int e), some (.int ((wordTo w (wlX a b c d e) m) + ((w (86 + p1)) + ((gapOf w (layQ w q) r1 p1) - (nI 100))))), some (.int (nI m))]) hX dX7_word_154 (by decide) rfl ?_
              refine g_iincN (L' := [some (.ref a0), some (.int (nI n1)), some (.int a), some (.int b), some (.int c), some (.int d), some (.int e), some (.int ((wordTo w (wlX a b c d e) m) + ((w (86 + p1)) + ((gapOf w (layQ w q) r1 p1) - (nI 100))))), some (.int (nI (m + 1)))]) hX dX7_word_156 rfl (by decide) rfl ?_
              refine g_goto (tgt := 97) hX dX7_word_159 (by decide) ?_
              exact g_fin (ih97 (by omega) ) (rfl) rfl ⟨rfl, rfl, rfl, rfl, rfl, rfl, rfl, (congrArg some (congrArg Value.int (wordTo_t (cq_q w q) h122 hp1 hr1 ep1 er1))), rfl, trivial⟩
        exact g_fin (loop97 0 (by omega) ) (rfl) rfl ⟨rfl, rfl, rfl, rfl, rfl, rfl, rfl, (congrArg some (congrArg Value.int wordTo_0)), rfl, trivial⟩
      · skip
        refine g_aload_n hX dX7_word_62 rfl ?_
        refine g_aload_n hX dX7_word_63 rfl ?_
        refine g_getf hX dX7_word_64 fk_X7_41 0 rfl rfl ?_
        refine g_iload hX dX7_word_67 rfl ?_
        refine g_iald hX dX7_word_69 4 rfl (by decide) (by omega) ?_
        refine g_callRi hX dX7_word_70 cw_X7_69 (ct_X7_isKnown  (by first | with_reducible assumption | rfl)) 0 8 [0, 1] rfl rfl rfl rfl (by decide) rfl ⟨by decide, by decide⟩ (Nat.le_of_ble_eq_true rfl) (Nat.le_refl _) (Nat.le_refl _) ?_
        refine g_ifb_ne (tgt := 79) hX dX7_word_73 (by decide) (fun h73 => ?_) (fun h73 => ?_)
        · skip
          refine g_iincN (L' := [some (.ref a0), some (.int (nI n1)), some (.int a), some (.int b), some (.int c), some (.int d), some (.int e), some (.int (nI (k + 1))), none]) hX dX7_word_79 rfl (by decide) rfl ?_
          refine g_goto (tgt := 56) hX dX7_word_82 (by decide) ?_
          exact g_fin (ih56 (by omega) (by unfold allKn; rw [hall, ← hwl k (by omega), h73]; rfl)) (rfl) rfl ⟨rfl, rfl, rfl, rfl, rfl, rfl, rfl, rfl, trivial⟩
        · skip
          refine g_ldc hX dX7_word_76 kc_X7_239 ?_
          subst hQ
          exact g_zretU hX dX7_word_78 (vp_nar_int _) ((-1000000001), q, cl, wlU wl a b c d e) (⟨rfl, (wordV_no gn1 hn1 (allKn_no (by rw [← hwl k (by omega)]; exact h73) (by omega))).symm⟩) rfl (Nat.le_refl _) (Nat.le_refl _)
    exact g_fin (loop56 0 (by omega) rfl) (rfl) rfl ⟨rfl, rfl, rfl, rfl, rfl, rfl, rfl, rfl, trivial⟩
  · skip
    refine g_ldc hX dX7_word_12 kc_X7_210 ?_
    subst hQ
    exact g_zretU hX dX7_word_14 (vp_nar_int _) ((-1000000002), q, cl, wl) (⟨rfl, (wordV_bad h9).symm⟩) rfl (Nat.le_refl _) (Nat.le_refl _)
