set_option maxRecDepth 100000 in
set_option maxHeartbeats 4000000 in
theorem ct_X7_draw {l : Launch} {D : va_G} {a0 a1 a2 a3 a4 a5 a6 a7 a8 a9 a10 uk sz wr pa fl ln : Nat} {kp fa : Int32} {s : Nat} {nx : Nat → Nat} {rn : Nat → Nat → Nat} {n : Nat} (hs : s < 2147483648) (hN : nx = nxN) (hR : rn = rnN) (hn : 0 < n) (hn2 : n < 100) : Cf l D yX7_draw cX7_draw 2 (some .int) 0 0 [.ref a0, .int (nI n)] [(a0, .inr (8, [.ref a1, .int (nI uk), .int kp, .int (nI s), .ref a2, .ref a3, .int (nI sz), .int fa, .ref a4, .ref a5, .ref a6, .int (nI wr), .ref a7, .ref a8, .int (nI pa), .int (nI fl), .ref a9, .int (nI ln), .ref a10]))] (some (.int (nI (rn (nx s) n)))) [(a0, .inr (8, [.ref a1, .int (nI uk), .int kp, .int (nI (nx s)), .ref a2, .ref a3, .int (nI sz), .int fa, .ref a4, .ref a5, .ref a6, .int (nI wr), .ref a7, .ref a8, .int (nI pa), .int (nI fl), .ref a9, .int (nI ln), .ref a10]))] := by
  refine Ct.ofG (by decide) (Nat.le_of_ble_eq_true rfl) ?_
  intro X hX
  have hX : CX X l D RX7 "draw" cX7_draw 2 (some .int) 0 0 0 0 := hX
  show G X (QF X (some (.int (nI (rn (nx s) n)))) [(a0, .inr (8, [.ref a1, .int (nI uk), .int kp, .int (nI (nx s)), .ref a2, .ref a3, .int (nI sz), .int fa, .ref a4, .ref a5, .ref a6, .int (nI wr), .ref a7, .ref a8, .int (nI pa), .int (nI fl), .ref a9, .int (nI ln), .ref a10]))]) [(a0, .inr (8, [.ref a1, .int (nI uk), .int kp, .int (nI s), .ref a2, .ref a3, .int (nI sz), .int fa, .ref a4, .ref a5, .ref a6, .int (nI wr), .ref a7, .ref a8, .int (nI pa), .int (nI fl), .ref a9, .int (nI ln), .ref a10]))] 0 0 0 [some (.ref a0), some (.int (nI n))] []
  generalize hQ : QF X (some (.int (nI (rn (nx s) n)))) [(a0, .inr (8, [.ref a1, .int (nI uk), .int kp, .int (nI (nx s)), .ref a2, .ref a3, .int (nI sz), .int fa, .ref a4, .ref a5, .ref a6, .int (nI wr), .ref a7, .ref a8, .int (nI pa), .int (nI fl), .ref a9, .int (nI ln), .ref a10]))] = Q
  refine g_aload_n hX dX7_draw_0 rfl ?_
  refine g_aload_n hX dX7_draw_1 rfl ?_
  refine g_getf hX dX7_draw_2 fk_X7_246 0 rfl rfl ?_
  refine g_i2l hX dX7_draw_5 ?_
  refine g_ldc2 hX dX7_draw_6 kc_X7_284 ?_
  refine g_lmul hX dX7_draw_9 ?_
  refine g_ldc2 hX dX7_draw_10 kc_X7_286 ?_
  refine g_ladd hX dX7_draw_13 ?_
  refine g_ldc2 hX dX7_draw_14 kc_X7_288 ?_
  refine g_lrem hX dX7_draw_17 (by decide) ?_
  refine g_l2i hX dX7_draw_18 ?_
  refine g_top (v' := nI (nx s)) (by rw [hN]; exact draw_n hs) ?_
  have hnx : nx s < 2147483648 := by rw [hN]; exact nxN_lt s
  refine g_puti (ws' := [(a0, .inr (8, [.ref a1, .int (nI uk), .int kp, .int (nI (nx s)), .ref a2, .ref a3, .int (nI sz), .int fa, .ref a4, .ref a5, .ref a6, .int (nI wr), .ref a7, .ref a8, .int (nI pa), .int (nI fl), .ref a9, .int (nI ln), .ref a10]))]) hX dX7_draw_19 fp_X7_246 0 rfl (Nat.le_of_ble_eq_true rfl) rfl ?_
  refine g_aload_n hX dX7_draw_22 rfl ?_
  refine g_getf hX dX7_draw_23 fk_X7_246 0 rfl rfl ?_
  refine g_ldcw hX dX7_draw_26 kc_X7_290 ?_
  refine g_top (v' := nI 65536) (by decide) ?_
  refine g_idivN hX dX7_draw_29 (by omega) (by omega) (by omega) ?_
  refine g_iload_n hX dX7_draw_30 rfl ?_
  refine g_iremN hX dX7_draw_31 (by omega) (by omega) (by omega) ?_
  refine g_top (v' := nI (rn (nx s) n)) (by rw [hR]; exact rnN_eq _ _) ?_
  subst hQ
  exact g_iret hX dX7_draw_32 (rfl) (rfl) rfl rfl
set_option maxRecDepth 100000 in
set_option maxHeartbeats 4000000 in
theorem ct_X7_chance {l : Launch} {D : va_G} {a0 a1 a2 a3 a4 a5 a6 a7 a8 a9 a10 uk sz wr pa fl ln : Nat} {kp fa : Int32} {s : Nat} {nx : Nat → Nat} {rn : Nat → Nat → Nat} {w : Nat → Int32} (hu : uk ≤ 16) (hs : s < 2147483648) (hN : nx = nxN) (hR : rn = rnN) : Cf l D yX7_chance cX7_chance 4 none 2 46 [.ref a0] [(a0, .inr (8, [.ref a1, .int (nI uk), .int kp, .int (nI s), .ref a2, .ref a3, .int (nI sz), .int fa, .ref a4, .ref a5, .ref a6, .int (nI wr), .ref a7, .ref a8, .int (nI pa), .int (nI fl), .ref a9, .int (nI ln), .ref a10])), (a1, .inl (D.1 100, 3318, .inl w))] none [(a0, .inr (8, [.ref a1, .int (nI (memU uk)), .int kp, .int (nI ((chanceR nx rn w s).2)), .ref a2, .ref a3, .int (nI sz), .int fa, .ref a4, .ref a5, .ref a6, .int (nI wr), .ref a7, .ref a8, .int (nI pa), .int (nI fl), .ref a9, .int (nI ln), .ref a10])), (a1, .inl (D.1 100, 3318, .inl ((chanceR nx rn w s).1)))] := by
  refine Ct.ofG (by decide) (Nat.le_of_ble_eq_true rfl) ?_
  intro X hX
  have hX : CX X l D RX7 "chance" cX7_chance 4 none 2 46 0 0 := hX
  show G X (QF X none [(a0, .inr (8, [.ref a1, .int (nI (memU uk)), .int kp, .int (nI ((chanceR nx rn w s).2)), .ref a2, .ref a3, .int (nI sz), .int fa, .ref a4, .ref a5, .ref a6, .int (nI wr), .ref a7, .ref a8, .int (nI pa), .int (nI fl), .ref a9, .int (nI ln), .ref a10])), (a1, .inl (D.1 100, 3318, .inl ((chanceR nx rn w s).1)))]) [(a0, .inr (8, [.ref a1, .int (nI uk), .int kp, .int (nI s), .ref a2, .ref a3, .int (nI sz), .int fa, .ref a4, .ref a5, .ref a6, .int (nI wr), .ref a7, .ref a8, .int (nI pa), .int (nI fl), .ref a9, .int (nI ln), .ref a10])), (a1, .inl (D.1 100, 3318, .inl w))] 0 0 0 [some (.ref a0), none, none, none] []
  generalize hQ : QF X none [(a0, .inr (8, [.ref a1, .int (nI (memU uk)), .int kp, .int (nI ((chanceR nx rn w s).2)), .ref a2, .ref a3, .int (nI sz), .int fa, .ref a4, .ref a5, .ref a6, .int (nI wr), .ref a7, .ref a8, .int (nI pa), .int (nI fl), .ref a9, .int (nI ln), .ref a10])), (a1, .inl (D.1 100, 3318, .inl ((chanceR nx rn w s).1)))] = Q
  have hnx : ∀ s, nx s < 2147483648 := by intro s; rw [hN]; exact nxN_lt s
  have hrn : ∀ s n, 0 < n → rn s n < n := by intro s n h; rw [hR]; exact rnN_lt s h
  have hs1 := hnx s
  have hs2 := hnx (nx s)
  have hC := hrn (nx s) 8 (by decide)
  have hDD := hrn (nx (nx s)) 8 (by decide)
  have hs10 := nxIt_lt hnx (hnx s) 10
  refine g_aload_n hX dX7_chance_0 rfl ?_
  refine g_callFv (ws' := [(a0, .inr (8, [.ref a1, .int (nI (if 16 ≤ uk then 16 else uk + 1)), .int kp, .int (nI s), .ref a2, .ref a3, .int (nI sz), .int fa, .ref a4, .ref a5, .ref a6, .int (nI wr), .ref a7, .ref a8, .int (nI pa), .int (nI fl), .ref a9, .int (nI ln), .ref a10])), (a1, .inl (D.1 100, 3318, .inl (memTo w 0)))]) hX dX7_chance_1 cw_X7_215 (ct_X7_remember  (by omega)) 0 8 [0, 1] rfl rfl rfl rfl (by decide) rfl rfl ⟨by decide, by decide⟩ (Nat.le_of_ble_eq_true rfl) (Nat.le_refl _) (Nat.le_refl _) rfl ?_
  refine g_aload_n hX dX7_chance_4 rfl ?_
  refine g_bipush hX dX7_chance_5 kn_b_8 ?_
  refine g_callFi (ws' := [(a0, .inr (8, [.ref a1, .int (nI (if 16 ≤ uk then 16 else uk + 1)), .int kp, .int (nI (nx s)), .ref a2, .ref a3, .int (nI sz), .int fa, .ref a4, .ref a5, .ref a6, .int (nI wr), .ref a7, .ref a8, .int (nI pa), .int (nI fl), .ref a9, .int (nI ln), .ref a10])), (a1, .inl (D.1 100, 3318, .inl (memTo w 0)))]) hX dX7_chance_7 cw_X7_291 (ct_X7_draw  (by omega) (by first | with_reducible assumption | assumption) (by first | with_reducible assumption | assumption) (by omega) (by omega)) 0 8 [0] rfl rfl rfl rfl (by decide) rfl rfl ⟨by decide, by decide⟩ (Nat.le_of_ble_eq_true rfl) (Nat.le_refl _) (Nat.le_refl _) rfl ?_
  refine g_istore_n (L' := [some (.ref a0), some (.int (nI (rn (nx s) 8))), none, none]) hX dX7_chance_10 (by decide) rfl ?_
  refine g_aload_n hX dX7_chance_11 rfl ?_
  refine g_iload_n hX dX7_chance_12 rfl ?_
  refine g_callRi hX dX7_chance_13 cw_X7_69 (ct_X7_isKnown_N  (by first | with_reducible assumption | rfl) (by omega)) 0 8 [0, 1] rfl rfl rfl rfl (by decide) rfl ⟨by decide, by decide⟩ (Nat.le_of_ble_eq_true rfl) (Nat.le_refl _) (Nat.le_refl _) ?_
  refine g_ifb_ne (tgt := 92) hX dX7_chance_16 (by decide) (fun h16 => ?_) (fun h16 => ?_)
  · skip
    refine g_aload_n hX dX7_chance_92 rfl ?_
    refine g_bipush hX dX7_chance_93 kn_b_8 ?_
    refine g_callFi (ws' := [(a0, .inr (8, [.ref a1, .int (nI (if 16 ≤ uk then 16 else uk + 1)), .int kp, .int (nI (nx (nx s))), .ref a2, .ref a3, .int (nI sz), .int fa, .ref a4, .ref a5, .ref a6, .int (nI wr), .ref a7, .ref a8, .int (nI pa), .int (nI fl), .ref a9, .int (nI ln), .ref a10])), (a1, .inl (D.1 100, 3318, .inl (memTo w 0)))]) hX dX7_chance_95 cw_X7_291 (ct_X7_draw  (by omega) (by first | with_reducible assumption | assumption) (by first | with_reducible assumption | assumption) (by omega) (by omega)) 0 8 [0] rfl rfl rfl rfl (by decide) rfl rfl ⟨by decide, by decide⟩ (Nat.le_of_ble_eq_true rfl) (Nat.le_refl _) (Nat.le_refl _) rfl ?_
    refine g_istore_n (L' := [some (.ref a0), some (.int (nI (rn (nx s) 8))), some (.int (nI (rn (nx (nx s)) 8))), none]) hX dX7_chance_98 (by decide) rfl ?_
    refine g_aload_n hX dX7_chance_99 rfl ?_
    refine g_bipush hX dX7_chance_100 kn_b_9 ?_
    refine g_callFi (ws' := [(a0, .inr (8, [.ref a1, .int (nI (if 16 ≤ uk then 16 else uk + 1)), .int kp, .int (nI (nx (nx (nx s)))), .ref a2, .ref a3, .int (nI sz), .int fa, .ref a4, .ref a5, .ref a6, .int (nI wr), .ref a7, .ref a8, .int (nI pa), .int (nI fl), .ref a9, .int (nI ln), .ref a10])), (a1, .inl (D.1 100, 3318, .inl (memTo w 0)))]) hX dX7_chance_102 cw_X7_291 (ct_X7_draw  (by omega) (by first | with_reducible assumption | assumption) (by first | with_reducible assumption | assumption) (by omega) (by omega)) 0 8 [0] rfl rfl rfl rfl (by decide) rfl rfl ⟨by decide, by decide⟩ (Nat.le_of_ble_eq_true rfl) (Nat.le_refl _) (Nat.le_refl _) rfl ?_
    refine g_iconst hX dX7_chance_105 kn_i_4 ?_
    refine g_isub hX dX7_chance_106 ?_
    refine g_istore_n (L' := [some (.ref a0), some (.int (nI (rn (nx s) 8))), some (.int (nI (rn (nx (nx s)) 8))), some (.int ((nI (rn (nx (nx (nx s))) 9)) - (nI 4)))]) hX dX7_chance_107 (by decide) rfl ?_
    refine g_aload_n hX dX7_chance_108 rfl ?_
    refine g_getf hX dX7_chance_109 fk_X7_7 0 rfl rfl ?_
    refine g_bipush hX dX7_chance_112 kn_b_94 ?_
    refine g_bipush hX dX7_chance_114 kn_b_8 ?_
    refine g_iload_n hX dX7_chance_116 rfl ?_
    refine g_imulN hX dX7_chance_117 ?_
    refine g_iaddN hX dX7_chance_118 ?_
    refine g_iload_n hX dX7_chance_119 rfl ?_
    refine g_iaddN hX dX7_chance_120 ?_
    refine g_aload_n hX dX7_chance_121 rfl ?_
    refine g_iload_n hX dX7_chance_122 rfl ?_
    refine g_callRi hX dX7_chance_123 cw_X7_69 (ct_X7_isKnown_N  (by first | with_reducible assumption | rfl) (by omega)) 0 8 [0, 1] rfl rfl rfl rfl (by decide) rfl ⟨by decide, by decide⟩ (Nat.le_of_ble_eq_true rfl) (Nat.le_refl _) (Nat.le_refl _) ?_
    have J126 : ∀ (v126_0 : Int32), (v126_0 = (if kn ((memTo w 0) 0) (rn (nx (nx s)) 8) then (((nI (rn (nx (nx (nx s))) 9)) - (nI 4)) + (nI 100)) else ((memTo w 0) ((94 + (8 * (rn (nx s) 8))) + (rn (nx (nx s)) 8))))) → G X Q [(a0, .inr (8, [.ref a1, .int (nI (if 16 ≤ uk then 16 else uk + 1)), .int kp, .int (nI (nx (nx (nx s)))), .ref a2, .ref a3, .int (nI sz), .int fa, .ref a4, .ref a5, .ref a6, .int (nI wr), .ref a7, .ref a8, .int (nI pa), .int (nI fl), .ref a9, .int (nI ln), .ref a10])), (a1, .inl (D.1 100, 3318, .inl (memTo w 0)))] 0 0 150 [some (.ref a0), some (.int (nI (rn (nx s) 8))), some (.int (nI (rn (nx (nx s)) 8))), some (.int ((nI (rn (nx (nx (nx s))) 9)) - (nI 4)))] [.int v126_0, .int (nI ((94 + (8 * (rn (nx s) 8))) + (rn (nx (nx s)) 8))), .ref a1] := by
      intro v126_0 ev126_0
      subst ev126_0
      refine g_iast (ws' := [(a0, .inr (8, [.ref a1, .int (nI (if 16 ≤ uk then 16 else uk + 1)), .int kp, .int (nI (nx (nx (nx s)))), .ref a2, .ref a3, .int (nI sz), .int fa, .ref a4, .ref a5, .ref a6, .int (nI wr), .ref a7, .ref a8, .int (nI pa), .int (nI fl), .ref a9, .int (nI ln), .ref a10])), (a1, .inl (D.1 100, 3318, .inl (upd (memTo w 0) ((94 + (8 * (rn (nx s) 8))) + (rn (nx (nx s)) 8)) (if kn ((memTo w 0) 0) (rn (nx (nx s)) 8) then (((nI (rn (nx (nx (nx s))) 9)) - (nI 4)) + (nI 100)) else ((memTo w 0) ((94 + (8 * (rn (nx s) 8))) + (rn (nx (nx s)) 8)))))))]) hX dX7_chance_150 1 rfl (by decide) (by omega) rfl ?_
      subst hQ
      exact g_vret hX dX7_chance_151 rfl (by rw [chanceR_y h16] <;> rfl) rfl rfl
    refine g_ifb_eq (tgt := 136) hX dX7_chance_126 (by decide) (fun h126 => ?_) (fun h126 => ?_)
    · skip
      refine g_aload_n hX dX7_chance_136 rfl ?_
      refine g_getf hX dX7_chance_137 fk_X7_7 0 rfl rfl ?_
      refine g_bipush hX dX7_chance_140 kn_b_94 ?_
      refine g_bipush hX dX7_chance_142 kn_b_8 ?_
      refine g_iload_n hX dX7_chance_144 rfl ?_
      refine g_imulN hX dX7_chance_145 ?_
      refine g_iaddN hX dX7_chance_146 ?_
      refine g_iload_n hX dX7_chance_147 rfl ?_
      refine g_iaddN hX dX7_chance_148 ?_
      refine g_iald hX dX7_chance_149 1 rfl (by decide) (by omega) ?_
      exact g_to (J126 ((memTo w 0) ((94 + (8 * (rn (nx s) 8))) + (rn (nx (nx s)) 8))) (if_bf h126).symm) ⟨rfl, rfl, rfl, rfl, trivial⟩
    · skip
      refine g_iload_n hX dX7_chance_129 rfl ?_
      refine g_bipush hX dX7_chance_130 kn_b_100 ?_
      refine g_iadd hX dX7_chance_132 ?_
      refine g_goto (tgt := 150) hX dX7_chance_133 (by decide) ?_
      exact g_to (J126 (((nI (rn (nx (nx (nx s))) 9)) - (nI 4)) + (nI 100)) (if_bt h126).symm) ⟨rfl, rfl, rfl, rfl, trivial⟩
  · skip
    refine g_iconst hX dX7_chance_19 kn_i_0 ?_
    refine g_istore_n (L' := [some (.ref a0), some (.int (nI (rn (nx s) 8))), some (.int (nI 0)), none]) hX dX7_chance_20 (by decide) rfl ?_
    have loop21 : ∀ i : Nat, i ≤ 10 → G X Q [(a0, .inr (8, [.ref a1, .int (nI (if 16 ≤ uk then 16 else uk + 1)), .int kp, .int (nI (nxIt nx i (nx s))), .ref a2, .ref a3, .int (nI sz), .int fa, .ref a4, .ref a5, .ref a6, .int (nI wr), .ref a7, .ref a8, .int (nI pa), .int (nI fl), .ref a9, .int (nI ln), .ref a10])), (a1, .inl (D.1 100, 3318, .inl (chW nx rn (memTo w 0) (rn (nx s) 8) (nx s) i)))] 0 0 21 [some (.ref a0), some (.int (nI (rn (nx s) 8))), some (.int (nI i)), none] [] := by
      refine loopN 10 (fun i hh21 ih21 => ?_)
      have hsi := nxIt_lt hnx (hnx s) i
      refine g_iload_n hX dX7_chance_21 rfl ?_
      refine g_bipush hX dX7_chance_22 kn_b_10 ?_
      refine g_icmpN_ge (tgt := 60) hX dX7_chance_24 (by decide) (by omega) (by omega) (fun h24 => ?_) (fun h24 => ?_)
      · skip
        obtain rfl : i = 10 := by omega
        refine g_aload_n hX dX7_chance_60 rfl ?_
        refine g_getf hX dX7_chance_61 fk_X7_7 0 rfl rfl ?_
        refine g_bipush hX dX7_chance_64 kn_b_86 ?_
        refine g_iload_n hX dX7_chance_66 rfl ?_
        refine g_iaddN hX dX7_chance_67 ?_
        refine g_aload_n hX dX7_chance_68 rfl ?_
        refine g_bipush hX dX7_chance_69 kn_b_9 ?_
        refine g_callFi (ws' := [(a0, .inr (8, [.ref a1, .int (nI (if 16 ≤ uk then 16 else uk + 1)), .int kp, .int (nI (nx (nxIt nx 10 (nx s)))), .ref a2, .ref a3, .int (nI sz), .int fa, .ref a4, .ref a5, .ref a6, .int (nI wr), .ref a7, .ref a8, .int (nI pa), .int (nI fl), .ref a9, .int (nI ln), .ref a10])), (a1, .inl (D.1 100, 3318, .inl (chW nx rn (memTo w 0) (rn (nx s) 8) (nx s) 10)))]) hX dX7_chance_71 cw_X7_291 (ct_X7_draw  (by omega) (by first | with_reducible assumption | assumption) (by first | with_reducible assumption | assumption) (by omega) (by omega)) 0 8 [0] rfl rfl rfl rfl (by decide) rfl rfl ⟨by decide, by decide⟩ (Nat.le_of_ble_eq_true rfl) (Nat.le_refl _) (Nat.le_refl _) rfl ?_
        refine g_iconst hX dX7_chance_74 kn_i_1 ?_
        refine g_iaddN hX dX7_chance_75 ?_
        refine g_iast (ws' := [(a0, .inr (8, [.ref a1, .int (nI (if 16 ≤ uk then 16 else uk + 1)), .int kp, .int (nI (nx (nxIt nx 10 (nx s)))), .ref a2, .ref a3, .int (nI sz), .int fa, .ref a4, .ref a5, .ref a6, .int (nI wr), .ref a7, .ref a8, .int (nI pa), .int (nI fl), .ref a9, .int (nI ln), .ref a10])), (a1, .inl (D.1 100, 3318, .inl (upd (chW nx rn (memTo w 0) (rn (nx s) 8) (nx s) 10) (86 + (rn (nx s) 8)) (nI ((rn (nx (nxIt nx 10 (nx s))) 9) + 1)))))]) hX dX7_chance_76 1 rfl (by decide) (by omega) rfl ?_
        refine g_aload_n hX dX7_chance_77 rfl ?_
        refine g_getf hX dX7_chance_78 fk_X7_7 0 rfl rfl ?_
        refine g_iconst hX dX7_chance_81 kn_i_0 ?_
        refine g_dup2 hX dX7_chance_82 rfl rfl ?_
        refine g_iald hX dX7_chance_83 1 rfl (by decide) (by omega) ?_
        refine g_iconst hX dX7_chance_84 kn_i_1 ?_
        refine g_iload_n hX dX7_chance_85 rfl ?_
        refine g_ishl hX dX7_chance_86 ?_
        refine g_ior hX dX7_chance_87 ?_
        refine g_iast (ws' := [(a0, .inr (8, [.ref a1, .int (nI (if 16 ≤ uk then 16 else uk + 1)), .int kp, .int (nI (nx (nxIt nx 10 (nx s)))), .ref a2, .ref a3, .int (nI sz), .int fa, .ref a4, .ref a5, .ref a6, .int (nI wr), .ref a7, .ref a8, .int (nI pa), .int (nI fl), .ref a9, .int (nI ln), .ref a10])), (a1, .inl (D.1 100, 3318, .inl (upd (upd (chW nx rn (memTo w 0) (rn (nx s) 8) (nx s) 10) (86 + (rn (nx s) 8)) (nI ((rn (nx (nxIt nx 10 (nx s))) 9) + 1))) 0 (((upd (chW nx rn (memTo w 0) (rn (nx s) 8) (nx s) 10) (86 + (rn (nx s) 8)) (nI ((rn (nx (nxIt nx 10 (nx s))) 9) + 1))) 0) ||| ((nI 1) <<< ((nI (rn (nx s) 8)) &&& 31))))))]) hX dX7_chance_88 1 rfl (by decide) (by omega) rfl ?_
        refine g_goto (tgt := 151) hX dX7_chance_89 (by decide) ?_
        subst hQ
        exact g_vret hX dX7_chance_151 rfl (by rw [chanceR_n h16] <;> rfl) rfl rfl
      · skip
        refine g_aload_n hX dX7_chance_27 rfl ?_
        refine g_getf hX dX7_chance_28 fk_X7_7 0 rfl rfl ?_
        refine g_bipush hX dX7_chance_31 kn_b_6 ?_
        refine g_bipush hX dX7_chance_33 kn_b_40 ?_
        refine g_iload_n hX dX7_chance_35 rfl ?_
        refine g_iconst hX dX7_chance_36 kn_i_5 ?_
        refine g_idivN hX dX7_chance_37 (by omega) (by omega) (by omega) ?_
        refine g_imulN hX dX7_chance_38 ?_
        refine g_iaddN hX dX7_chance_39 ?_
        refine g_iconst hX dX7_chance_40 kn_i_5 ?_
        refine g_iload_n hX dX7_chance_41 rfl ?_
        refine g_imulN hX dX7_chance_42 ?_
        refine g_iaddN hX dX7_chance_43 ?_
        refine g_iload_n hX dX7_chance_44 rfl ?_
        refine g_iconst hX dX7_chance_45 kn_i_5 ?_
        refine g_iremN hX dX7_chance_46 (by omega) (by omega) (by omega) ?_
        refine g_iaddN hX dX7_chance_47 ?_
        refine g_aload_n hX dX7_chance_48 rfl ?_
        refine g_iconst hX dX7_chance_49 kn_i_5 ?_
        refine g_callFi (ws' := [(a0, .inr (8, [.ref a1, .int (nI (if 16 ≤ uk then 16 else uk + 1)), .int kp, .int (nI (nx (nxIt nx i (nx s)))), .ref a2, .ref a3, .int (nI sz), .int fa, .ref a4, .ref a5, .ref a6, .int (nI wr), .ref a7, .ref a8, .int (nI pa), .int (nI fl), .ref a9, .int (nI ln), .ref a10])), (a1, .inl (D.1 100, 3318, .inl (chW nx rn (memTo w 0) (rn (nx s) 8) (nx s) i)))]) hX dX7_chance_50 cw_X7_291 (ct_X7_draw  (by omega) (by first | with_reducible assumption | assumption) (by first | with_reducible assumption | assumption) (by omega) (by omega)) 0 8 [0] rfl rfl rfl rfl (by decide) rfl rfl ⟨by decide, by decide⟩ (Nat.le_of_ble_eq_true rfl) (Nat.le_refl _) (Nat.le_refl _) rfl ?_
        refine g_iast (ws' := [(a0, .inr (8, [.ref a1, .int (nI (if 16 ≤ uk then 16 else uk + 1)), .int kp, .int (nI (nx (nxIt nx i (nx s)))), .ref a2, .ref a3, .int (nI sz), .int fa, .ref a4, .ref a5, .ref a6, .int (nI wr), .ref a7, .ref a8, .int (nI pa), .int (nI fl), .ref a9, .int (nI ln), .ref a10])), (a1, .inl (D.1 100, 3318, .inl (upd (chW nx rn (memTo w 0) (rn (nx s) 8) (nx s) i) (((6 + (40 * (i / 5))) + (5 * (rn (nx s) 8))) + (i % 5)) (nI (rn (nx (nxIt nx i (nx s))) 5)))))]) hX dX7_chance_53 1 rfl (by decide) (by omega) rfl ?_
        refine g_iincN (L' := [some (.ref a0), some (.int (nI (rn (nx s) 8))), some (.int (nI (i + 1))), none]) hX dX7_chance_54 rfl (by decide) rfl ?_
        refine g_goto (tgt := 21) hX dX7_chance_57 (by decide) ?_
        exact g_fin (ih21 (by omega) ) (rfl) rfl ⟨rfl, rfl, rfl, trivial⟩
    exact g_fin (loop21 0 (by omega) ) (rfl) rfl ⟨rfl, rfl, rfl, trivial⟩
set_option maxRecDepth 100000 in
set_option maxHeartbeats 4000000 in
theorem ct_X7_drift {l : Launch} {D : va_G} {a0 a1 a2 a3 a4 a5 a6 a7 a8 a9 a10 uk sz wr pa fl ln : Nat} {kp fa : Int32} {s : Nat} {nx : Nat → Nat} {rn : Nat → Nat → Nat} {w : Nat → Int32} {n : Int32} (hu : uk ≤ 16) (hs : s < 2147483648) (hN : nx = nxN) (hR : rn = rnN) : Ct (S := Int32 × (Nat → Int32) × Nat × Nat) l D yX7_drift cX7_drift 3 (some .int) 3 69 0 0 [.ref a0, .int n] [(a0, .inr (8, [.ref a1, .int (nI uk), .int kp, .int (nI s), .ref a2, .ref a3, .int (nI sz), .int fa, .ref a4, .ref a5, .ref a6, .int (nI wr), .ref a7, .ref a8, .int (nI pa), .int (nI fl), .ref a9, .int (nI ln), .ref a10])), (a1, .inl (D.1 100, 3318, .inl w))] (fun (r : Option Value) (u : Int32 × (Nat → Int32) × Nat × Nat) => match u with | (V, W, U, S) => r = (some (.int V)) ∧ ((V, W, U, S) = driftR nx rn w uk s n)) (fun (u : Int32 × (Nat → Int32) × Nat × Nat) => match u with | (V, W, U, S) => ([(a0, .inr (8, [.ref a1, .int (nI U), .int kp, .int (nI S), .ref a2, .ref a3, .int (nI sz), .int fa, .ref a4, .ref a5, .ref a6, .int (nI wr), .ref a7, .ref a8, .int (nI pa), .int (nI fl), .ref a9, .int (nI ln), .ref a10])), (a1, .inl (D.1 100, 3318, .inl W))] : va_W)) := by
  refine Ct.ofG (by decide) (Nat.le_of_ble_eq_true rfl) ?_
  intro X hX
  have hX : CX X l D RX7 "drift" cX7_drift 3 (some .int) 3 69 0 0 := hX
  show G X (QM X 0 0 (fun (r : Option Value) (u : Int32 × (Nat → Int32) × Nat × Nat) => match u with | (V, W, U, S) => r = (some (.int V)) ∧ ((V, W, U, S) = driftR nx rn w uk s n)) (fun (u : Int32 × (Nat → Int32) × Nat × Nat) => match u with | (V, W, U, S) => ([(a0, .inr (8, [.ref a1, .int (nI U), .int kp, .int (nI S), .ref a2, .ref a3, .int (nI sz), .int fa, .ref a4, .ref a5, .ref a6, .int (nI wr), .ref a7, .ref a8, .int (nI pa), .int (nI fl), .ref a9, .int (nI ln), .ref a10])), (a1, .inl (D.1 100, 3318, .inl W))] : va_W))) [(a0, .inr (8, [.ref a1, .int (nI uk), .int kp, .int (nI s), .ref a2, .ref a3, .int (nI sz), .int fa, .ref a4, .ref a5, .ref a6, .int (nI wr), .ref a7, .ref a8, .int (nI pa), .int (nI fl), .ref a9, .int (nI ln), .ref a10])), (a1, .inl (D.1 100, 3318, .inl w))] 0 0 0 [some (.ref a0), some (.int n), none] []
  generalize hQ : QM X 0 0 (fun (r : Option Value) (u : Int32 × (Nat → Int32) × Nat × Nat) => match u with | (V, W, U, S) => r = (some (.int V)) ∧ ((V, W, U, S) = driftR nx rn w uk s n)) (fun (u : Int32 × (Nat → Int32) × Nat × Nat) => match u with | (V, W, U, S) => ([(a0, .inr (8, [.ref a1, .int (nI U), .int kp, .int (nI S), .ref a2, .ref a3, .int (nI sz), .int fa, .ref a4, .ref a5, .ref a6, .int (nI wr), .ref a7, .ref a8, .int (nI pa), .int (nI fl), .ref a9, .int (nI ln), .ref a10])), (a1, .inl (D.1 100, 3318, .inl W))] : va_W)) = Q
  refine g_iload_n hX dX7_drift_0 rfl ?_
  refine g_i2l hX dX7_drift_1 ?_
  refine g_lconst (v := 1) hX dX7_drift_2 rfl ?_
  refine g_ldc2 hX dX7_drift_3 kc_X7_294 ?_
  refine g_callSRi hX dX7_drift_6 cw_X7_53 ct_X7_in [] rfl rfl (by decide) rfl ⟨by decide, by decide⟩ (Nat.le_of_ble_eq_true rfl) (Nat.le_refl _) (Nat.le_refl _) ?_
  refine g_ifb_ne (tgt := 15) hX dX7_drift_9 (by decide) (fun h9 => ?_) (fun h9 => ?_)
  · skip
    have hi9 := h9
    obtain ⟨n1, gn1, hn1, en1⟩ := inT1 (n := 12) (by decide) h9
    subst en1
    refine g_iconst hX dX7_drift_15 kn_i_0 ?_
    refine g_istore_n (L' := [some (.ref a0), some (.int (nI n1)), some (.int (nI 0))]) hX dX7_drift_16 (by decide) rfl ?_
    have loop17 : ∀ i : Nat, i ≤ n1 → G X Q [(a0, .inr (8, [.ref a1, .int (nI (memN uk i)), .int kp, .int (nI ((drI nx rn w s i).2)), .ref a2, .ref a3, .int (nI sz), .int fa, .ref a4, .ref a5, .ref a6, .int (nI wr), .ref a7, .ref a8, .int (nI pa), .int (nI fl), .ref a9, .int (nI ln), .ref a10])), (a1, .inl (D.1 100, 3318, .inl ((drI nx rn w s i).1)))] 0 0 17 [some (.ref a0), some (.int (nI n1)), some (.int (nI i))] [] := by
      refine loopN n1 (fun i hh17 ih17 => ?_)
      have hmi := memN_le hu i
      have hsi := drI_lt (w := w) (rn := rn) (fun s => (by rw [hN]; exact nxN_lt s : nx s < 2147483648)) hs i
      refine g_iload_n hX dX7_drift_17 rfl ?_
      refine g_iload_n hX dX7_drift_18 rfl ?_
      refine g_icmpN_ge (tgt := 32) hX dX7_drift_19 (by decide) (by omega) (by omega) (fun h19 => ?_) (fun h19 => ?_)
      · skip
        obtain rfl : n1 = i := by omega
        refine g_aload_n hX dX7_drift_32 rfl ?_
        refine g_getf hX dX7_drift_33 fk_X7_7 0 rfl rfl ?_
        refine g_iconst hX dX7_drift_36 kn_i_0 ?_
        refine g_iald hX dX7_drift_37 1 rfl (by decide) (by omega) ?_
        subst hQ
        exact g_zretU hX dX7_drift_38 (vp_nar_int _) (((drI nx rn w s n1).1) 0, (drI nx rn w s n1).1, memN uk n1, (drI nx rn w s n1).2) (⟨rfl, (driftR_ok hi9 hn1).symm⟩) rfl (Nat.le_refl _) (Nat.le_refl _)
      · skip
        refine g_aload_n hX dX7_drift_22 rfl ?_
        refine g_callFv (ws' := [(a0, .inr (8, [.ref a1, .int (nI (memU (memN uk i))), .int kp, .int (nI ((chanceR nx rn ((drI nx rn w s i).1) ((drI nx rn w s i).2)).2)), .ref a2, .ref a3, .int (nI sz), .int fa, .ref a4, .ref a5, .ref a6, .int (nI wr), .ref a7, .ref a8, .int (nI pa), .int (nI fl), .ref a9, .int (nI ln), .ref a10])), (a1, .inl (D.1 100, 3318, .inl ((chanceR nx rn ((drI nx rn w s i).1) ((drI nx rn w s i).2)).1)))]) hX dX7_drift_23 cw_X7_296 (ct_X7_chance  (by omega) (by omega) (by first | with_reducible assumption | assumption) (by first | with_reducible assumption | assumption)) 0 8 [0, 1] rfl rfl rfl rfl (by decide) rfl rfl ⟨by decide, by decide⟩ (Nat.le_of_ble_eq_true rfl) (Nat.le_refl _) (Nat.le_refl _) rfl ?_
        refine g_iincN (L' := [some (.ref a0), some (.int (nI n1)), some (.int (nI (i + 1)))]) hX dX7_drift_26 rfl (by decide) rfl ?_
        refine g_goto (tgt := 17) hX dX7_drift_29 (by decide) ?_
        exact g_fin (ih17 (by omega) ) (rfl) rfl ⟨rfl, rfl, rfl, trivial⟩
    exact g_fin (loop17 0 (by omega) ) (rfl) rfl ⟨rfl, rfl, rfl, trivial⟩
  · skip
    refine g_ldc hX dX7_drift_12 kc_X7_210 ?_
    subst hQ
    exact g_zretU hX dX7_drift_14 (vp_nar_int _) ((-1000000002), w, uk, s) (⟨rfl, (driftR_no h9).symm⟩) rfl (Nat.le_refl _) (Nat.le_refl _)
