set_option maxRecDepth 100000 in
set_option maxHeartbeats 4000000 in
theorem ct_X7_layLine {l : Launch} {D : va_G} {a0 a1 a2 a3 a4 a5 a6 a7 a8 a9 a10 uk sz wr pa fl ln : Nat} {kp sd fa : Int32} {w q cl lo : Nat → Int32} {k : Int32} (hq : ∀ k, k < 16 → q k = cq w k) (hc0 : cl 0 = nI (clM w 0)) (hc1 : cl 1 = nI (clM w 1)) : Ct (S := Bool × (Nat → Int32) × Nat) l D yX7_layLine cX7_layLine 5 (some .boolean) 9 215 0 0 [.ref a0, .int k] [(a0, .inr (8, [.ref a1, .int (nI uk), .int kp, .int sd, .ref a2, .ref a3, .int (nI sz), .int fa, .ref a4, .ref a5, .ref a6, .int (nI wr), .ref a7, .ref a8, .int (nI pa), .int (nI fl), .ref a9, .int (nI ln), .ref a10])), (a1, .inl (D.1 100, 3318, .inl w)), (a7, .inl (D.1 100, 16, .inl q)), (a8, .inl (D.1 100, 2, .inl cl)), (a9, .inl (D.1 100, 12, .inl lo))] (fun (r : Option Value) (u : Bool × (Nat → Int32) × Nat) => match u with | (b, Lo, Ln) => r = (some (.int (bI b))) ∧ (layP w lo k b Lo Ln)) (fun (u : Bool × (Nat → Int32) × Nat) => match u with | (b, Lo, Ln) => ([(a0, .inr (8, [.ref a1, .int (nI uk), .int kp, .int sd, .ref a2, .ref a3, .int (nI sz), .int fa, .ref a4, .ref a5, .ref a6, .int (nI wr), .ref a7, .ref a8, .int (nI pa), .int (nI fl), .ref a9, .int (nI Ln), .ref a10])), (a1, .inl (D.1 100, 3318, .inl w)), (a7, .inl (D.1 100, 16, .inl q)), (a8, .inl (D.1 100, 2, .inl cl)), (a9, .inl (D.1 100, 12, .inl Lo))] : va_W)) := by
  refine Ct.ofG (by decide) (Nat.le_of_ble_eq_true rfl) ?_
  intro X hX
  have hX : CX X l D RX7 "layLine" cX7_layLine 5 (some .boolean) 9 215 0 0 := hX
  show G X (QM X 0 0 (fun (r : Option Value) (u : Bool × (Nat → Int32) × Nat) => match u with | (b, Lo, Ln) => r = (some (.int (bI b))) ∧ (layP w lo k b Lo Ln)) (fun (u : Bool × (Nat → Int32) × Nat) => match u with | (b, Lo, Ln) => ([(a0, .inr (8, [.ref a1, .int (nI uk), .int kp, .int sd, .ref a2, .ref a3, .int (nI sz), .int fa, .ref a4, .ref a5, .ref a6, .int (nI wr), .ref a7, .ref a8, .int (nI pa), .int (nI fl), .ref a9, .int (nI Ln), .ref a10])), (a1, .inl (D.1 100, 3318, .inl w)), (a7, .inl (D.1 100, 16, .inl q)), (a8, .inl (D.1 100, 2, .inl cl)), (a9, .inl (D.1 100, 12, .inl Lo))] : va_W))) [(a0, .inr (8, [.ref a1, .int (nI uk), .int kp, .int sd, .ref a2, .ref a3, .int (nI sz), .int fa, .ref a4, .ref a5, .ref a6, .int (nI wr), .ref a7, .ref a8, .int (nI pa), .int (nI fl), .ref a9, .int (nI ln), .ref a10])), (a1, .inl (D.1 100, 3318, .inl w)), (a7, .inl (D.1 100, 16, .inl q)), (a8, .inl (D.1 100, 2, .inl cl)), (a9, .inl (D.1 100, 12, .inl lo))] 0 0 0 [some (.ref a0), some (.int k), none, none, none] []
  generalize hQ : QM X 0 0 (fun (r : Option Value) (u : Bool × (Nat → Int32) × Nat) => match u with | (b, Lo, Ln) => r = (some (.int (bI b))) ∧ (layP w lo k b Lo Ln)) (fun (u : Bool × (Nat → Int32) × Nat) => match u with | (b, Lo, Ln) => ([(a0, .inr (8, [.ref a1, .int (nI uk), .int kp, .int sd, .ref a2, .ref a3, .int (nI sz), .int fa, .ref a4, .ref a5, .ref a6, .int (nI wr), .ref a7, .ref a8, .int (nI pa), .int (nI fl), .ref a9, .int (nI Ln), .ref a10])), (a1, .inl (D.1 100, 3318, .inl w)), (a7, .inl (D.1 100, 16, .inl q)), (a8, .inl (D.1 100, 2, .inl cl)), (a9, .inl (D.1 100, 12, .inl Lo))] : va_W)) = Q
  have hmm := mm_le w
  have hm0 := clM_le w 0
  have hm1 := clM_le w 1
  refine g_aload_n hX dX7_layLine_0 rfl ?_
  refine g_getf hX dX7_layLine_1 fk_X7_35 0 rfl rfl ?_
  refine g_iconst hX dX7_layLine_4 kn_i_0 ?_
  refine g_iald hX dX7_layLine_5 3 rfl (by decide) (by omega) ?_
  refine g_top (v' := nI (clM w 0)) (hc0) ?_
  refine g_aload_n hX dX7_layLine_6 rfl ?_
  refine g_getf hX dX7_layLine_7 fk_X7_35 0 rfl rfl ?_
  refine g_iconst hX dX7_layLine_10 kn_i_1 ?_
  refine g_iald hX dX7_layLine_11 3 rfl (by decide) (by omega) ?_
  refine g_top (v' := nI (clM w 1)) (hc1) ?_
  refine g_imulN hX dX7_layLine_12 ?_
  refine g_istore_n (L' := [some (.ref a0), some (.int k), some (.int (nI ((clM w 0) * (clM w 1)))), none, none]) hX dX7_layLine_13 (by decide) rfl ?_
  refine g_iload_n hX dX7_layLine_14 rfl ?_
  refine g_i2l hX dX7_layLine_15 ?_
  refine g_lconst (v := 0) hX dX7_layLine_16 rfl ?_
  refine g_iload_n hX dX7_layLine_17 rfl ?_
  refine g_iconst hX dX7_layLine_18 kn_i_1 ?_
  refine g_isub hX dX7_layLine_19 ?_
  refine g_i2l hX dX7_layLine_20 ?_
  refine g_callSRi hX dX7_layLine_21 cw_X7_53 ct_X7_in [] rfl rfl (by decide) rfl ⟨by decide, by decide⟩ (Nat.le_of_ble_eq_true rfl) (Nat.le_refl _) (Nat.le_refl _) ?_
  refine g_ifb_eq (tgt := 49) hX dX7_layLine_24 (by decide) (fun h24 => ?_) (fun h24 => ?_)
  · skip
    refine g_iload_n hX dX7_layLine_49 rfl ?_
    refine g_istore_n (L' := [some (.ref a0), some (.int k), some (.int (nI ((clM w 0) * (clM w 1)))), some (.int (nI ((clM w 0) * (clM w 1)))), none]) hX dX7_layLine_50 (by decide) rfl ?_
    refine g_iconst hX dX7_layLine_51 kn_i_0 ?_
    refine g_istore (L' := [some (.ref a0), some (.int k), some (.int (nI ((clM w 0) * (clM w 1)))), some (.int (nI ((clM w 0) * (clM w 1)))), some (.int (nI 0))]) hX dX7_layLine_52 (by decide) rfl ?_
    by_cases hneg : k.toInt < 0
    · skip
      refine g_iload hX dX7_layLine_54 rfl ?_
      refine g_bipush hX dX7_layLine_56 kn_b_64 ?_
      refine g_icmpN_ge (tgt := 126) hX dX7_layLine_58 (by decide) (by decide) (by decide) (fun h => absurd h (by decide)) (fun _ => ?_)
      refine g_iload_n hX dX7_layLine_61 rfl ?_
      refine g_iload_n hX dX7_layLine_62 rfl ?_
      refine g_icmp_lt (tgt := 126) hX dX7_layLine_63 (by decide) (fun h63 => ?_) (fun h => absurd (neg_lt hneg (by omega)) h)
      refine g_iconst hX dX7_layLine_126 kn_i_0 ?_
      subst hQ
      exact g_zretU hX dX7_layLine_127 (by exact bI_nar false) (false, lo, ln) (⟨rfl, layP_none (lineL_neg hneg)⟩) rfl (Nat.le_refl _) (Nat.le_refl _)
    obtain ⟨K, hK, ek⟩ := i32_nat' hneg
    subst ek
    have hmK : clM w 0 * clM w 1 ≤ K := by
      rcases Nat.lt_or_ge K (clM w 0 * clM w 1) with z | z
      · rw [(inM (x := nI K) (by omega)).mpr (by rw [nI_toInt hK]; omega)] at h24; cases h24
      · exact z
    have loop54 : ∀ z : Nat × Nat, match z with | (p, cnt) => (p ≤ 64) → (clM w 0 * clM w 1 ≤ cnt) → (cnt ≤ K) → (nthS (strP w (cq w)) (K - clM w 0 * clM w 1) 64 0 = nthS (strP w (cq w)) (K - cnt) (64 - p) p) → G X Q [(a0, .inr (8, [.ref a1, .int (nI uk), .int kp, .int sd, .ref a2, .ref a3, .int (nI sz), .int fa, .ref a4, .ref a5, .ref a6, .int (nI wr), .ref a7, .ref a8, .int (nI pa), .int (nI fl), .ref a9, .int (nI ln), .ref a10])), (a1, .inl (D.1 100, 3318, .inl w)), (a7, .inl (D.1 100, 16, .inl q)), (a8, .inl (D.1 100, 2, .inl cl)), (a9, .inl (D.1 100, 12, .inl lo))] 0 0 54 [some (.ref a0), some (.int (nI K)), some (.int (nI ((clM w 0) * (clM w 1)))), some (.int (nI cnt)), some (.int (nI p))] [] := by
      refine loopM (fun z : Nat × Nat => match z with | (p, cnt) => 64 - p) (fun z ih54 => ?_)
      obtain ⟨p, cnt⟩ := z
      intro hp hcn hck hr
      refine g_iload hX dX7_layLine_54 rfl ?_
      refine g_bipush hX dX7_layLine_56 kn_b_64 ?_
      refine g_icmpN_ge (tgt := 126) hX dX7_layLine_58 (by decide) (by omega) (by omega) (fun h58 => ?_) (fun h58 => ?_)
      · skip
        refine g_iconst hX dX7_layLine_126 kn_i_0 ?_
        subst hQ
        exact g_zretU hX dX7_layLine_127 (by exact bI_nar false) (false, lo, ln) (⟨rfl, layP_none (lineL_str hK hmK (r := none) (by rw [hr, show 64 - p = 0 by omega]; rfl))⟩) rfl (Nat.le_refl _) (Nat.le_refl _)
      · skip
        refine g_iload_n hX dX7_layLine_61 rfl ?_
        refine g_iload_n hX dX7_layLine_62 rfl ?_
        refine g_icmpN_lt (tgt := 126) hX dX7_layLine_63 (by decide) (by omega) (by omega) (fun h => absurd h (by omega)) (fun h63 => ?_)
        refine g_aload_n hX dX7_layLine_66 rfl ?_
        refine g_getf hX dX7_layLine_67 fk_X7_7 0 rfl rfl ?_
        refine g_bipush hX dX7_layLine_70 kn_b_94 ?_
        refine g_iload hX dX7_layLine_72 rfl ?_
        refine g_iaddN hX dX7_layLine_74 ?_
        refine g_iald hX dX7_layLine_75 1 rfl (by decide) (by omega) ?_
        refine g_if_le (tgt := 120) hX dX7_layLine_76 (by decide) (fun h76 => ?_) (fun h76 => ?_)
        · skip
          refine g_iincN (L' := [some (.ref a0), some (.int (nI K)), some (.int (nI ((clM w 0) * (clM w 1)))), some (.int (nI cnt)), some (.int (nI (p + 1)))]) hX dX7_layLine_120 rfl (by decide) rfl ?_
          refine g_goto (tgt := 54) hX dX7_layLine_123 (by decide) ?_
          exact g_fin (ih54 (p + 1, cnt) (by show 64 - (p + 1) < 64 - p; omega) (by omega) hcn hck (hr.trans (nthS_n (by omega) (strP_1 h76)))) (rfl) rfl ⟨rfl, rfl, rfl, rfl, rfl, trivial⟩
        · skip
          refine g_aload_n hX dX7_layLine_79 rfl ?_
          refine g_iload hX dX7_layLine_80 rfl ?_
          refine g_bipush hX dX7_layLine_82 kn_b_8 ?_
          refine g_idivN hX dX7_layLine_84 (by omega) (by omega) (by omega) ?_
          refine g_iload hX dX7_layLine_85 rfl ?_
          refine g_bipush hX dX7_layLine_87 kn_b_8 ?_
          refine g_iremN hX dX7_layLine_89 (by omega) (by omega) (by omega) ?_
          refine g_callRi hX dX7_layLine_90 cw_X7_123 (ct_X7_isStrange  (by first | with_reducible assumption | rfl) (by first | with_reducible assumption | rfl) (by omega) (by omega)) 0 8 [0, 1, 2] rfl rfl rfl rfl (by decide) rfl ⟨by decide, by decide⟩ (Nat.le_of_ble_eq_true rfl) (Nat.le_refl _) (Nat.le_refl _) ?_
          refine g_ifb_eq (tgt := 120) hX dX7_layLine_93 (by decide) (fun h93 => ?_) (fun h93 => ?_)
          · skip
            refine g_iincN (L' := [some (.ref a0), some (.int (nI K)), some (.int (nI ((clM w 0) * (clM w 1)))), some (.int (nI cnt)), some (.int (nI (p + 1)))]) hX dX7_layLine_120 rfl (by decide) rfl ?_
            refine g_goto (tgt := 54) hX dX7_layLine_123 (by decide) ?_
            exact g_fin (ih54 (p + 1, cnt) (by show 64 - (p + 1) < 64 - p; omega) (by omega) hcn hck (hr.trans (nthS_n (by omega) (strP_2 hq (by omega) h93)))) (rfl) rfl ⟨rfl, rfl, rfl, rfl, rfl, trivial⟩
          · skip
            refine g_iload_n hX dX7_layLine_96 rfl ?_
            refine g_iload_n hX dX7_layLine_97 rfl ?_
            refine g_icmpN_ne (tgt := 117) hX dX7_layLine_98 (by decide) (by omega) (by omega) (fun h98 => ?_) (fun h98 => ?_)
            · skip
              refine g_iincN (L' := [some (.ref a0), some (.int (nI K)), some (.int (nI ((clM w 0) * (clM w 1)))), some (.int (nI (cnt + 1))), some (.int (nI p))]) hX dX7_layLine_117 rfl (by decide) rfl ?_
              refine g_iincN (L' := [some (.ref a0), some (.int (nI K)), some (.int (nI ((clM w 0) * (clM w 1)))), some (.int (nI (cnt + 1))), some (.int (nI (p + 1)))]) hX dX7_layLine_120 rfl (by decide) rfl ?_
              refine g_goto (tgt := 54) hX dX7_layLine_123 (by decide) ?_
              exact g_fin (ih54 (p + 1, cnt + 1) (by show 64 - (p + 1) < 64 - p; omega) (by omega) (by omega) (by omega) (hr.trans ((nthS_s (by omega) (strP_3 hq (by omega) h76 h93) (by omega)).trans (by rw [show K - cnt - 1 = K - (cnt + 1) by omega])))) (rfl) rfl ⟨rfl, rfl, rfl, rfl, rfl, trivial⟩
            · skip
              refine g_aload_n hX dX7_layLine_101 rfl ?_
              refine g_iload hX dX7_layLine_102 rfl ?_
              refine g_bipush hX dX7_layLine_104 kn_b_8 ?_
              refine g_idivN hX dX7_layLine_106 (by omega) (by omega) (by omega) ?_
              refine g_iload hX dX7_layLine_107 rfl ?_
              refine g_bipush hX dX7_layLine_109 kn_b_8 ?_
              refine g_iremN hX dX7_layLine_111 (by omega) (by omega) (by omega) ?_
              refine g_callFv (ws' := [(a0, .inr (8, [.ref a1, .int (nI uk), .int kp, .int sd, .ref a2, .ref a3, .int (nI sz), .int fa, .ref a4, .ref a5, .ref a6, .int (nI wr), .ref a7, .ref a8, .int (nI pa), .int (nI fl), .ref a9, .int (nI ((pairL w (p / 8) (p % 8)).length)), .ref a10])), (a1, .inl (D.1 100, 3318, .inl w)), (a7, .inl (D.1 100, 16, .inl q)), (a8, .inl (D.1 100, 2, .inl cl)), (a9, .inl (D.1 100, 12, .inl (putL lo 0 (pairL w (p / 8) (p % 8)))))]) hX dX7_layLine_112 cw_X7_230 (ct_X7_layPair  (by omega) (by omega)) 0 8 [0, 4, 1] rfl rfl rfl rfl (by decide) rfl rfl ⟨by decide, by decide⟩ (Nat.le_of_ble_eq_true rfl) (Nat.le_refl _) (Nat.le_refl _) rfl ?_
              refine g_iconst hX dX7_layLine_115 kn_i_1 ?_
              subst hQ
              exact g_zretU hX dX7_layLine_116 (by exact bI_nar true) (true, putL lo 0 (pairL w (p / 8) (p % 8)), (pairL w (p / 8) (p % 8)).length) (⟨rfl, layP_some (lineL_str hK hmK (r := some p) (hr.trans (nthS_z (by omega) (strP_3 hq (by omega) h76 h93) (by omega))))⟩) rfl (Nat.le_refl _) (Nat.le_refl _)
    exact g_fin (loop54 (0, clM w 0 * clM w 1) (by omega) (by omega) (by omega) rfl) (rfl) rfl ⟨rfl, rfl, rfl, rfl, rfl, trivial⟩
  · skip
    obtain ⟨k1, hk1, ek⟩ := inM_n ((inM (by omega)).mp h24) (by omega)
    subst ek
    have hz : 0 < clM w 0 := by rcases Nat.eq_zero_or_pos (clM w 0) with z | z; rw [z] at hk1; omega; exact z
    refine g_aload_n hX dX7_layLine_27 rfl ?_
    refine g_iload_n hX dX7_layLine_28 rfl ?_
    refine g_aload_n hX dX7_layLine_29 rfl ?_
    refine g_getf hX dX7_layLine_30 fk_X7_35 0 rfl rfl ?_
    refine g_iconst hX dX7_layLine_33 kn_i_0 ?_
    refine g_iald hX dX7_layLine_34 3 rfl (by decide) (by omega) ?_
    refine g_top (v' := nI (clM w 0)) (hc0) ?_
    refine g_idivN hX dX7_layLine_35 (by omega) (by omega) (by omega) ?_
    refine g_iload_n hX dX7_layLine_36 rfl ?_
    refine g_aload_n hX dX7_layLine_37 rfl ?_
    refine g_getf hX dX7_layLine_38 fk_X7_35 0 rfl rfl ?_
    refine g_iconst hX dX7_layLine_41 kn_i_0 ?_
    refine g_iald hX dX7_layLine_42 3 rfl (by decide) (by omega) ?_
    refine g_top (v' := nI (clM w 0)) (hc0) ?_
    refine g_iremN hX dX7_layLine_43 (by omega) (by omega) (by omega) ?_
    refine g_callFv (ws' := [(a0, .inr (8, [.ref a1, .int (nI uk), .int kp, .int sd, .ref a2, .ref a3, .int (nI sz), .int fa, .ref a4, .ref a5, .ref a6, .int (nI wr), .ref a7, .ref a8, .int (nI pa), .int (nI fl), .ref a9, .int (nI ((cellL w q (k1 / (clM w 0)) (k1 % (clM w 0))).length)), .ref a10])), (a1, .inl (D.1 100, 3318, .inl w)), (a7, .inl (D.1 100, 16, .inl q)), (a8, .inl (D.1 100, 2, .inl cl)), (a9, .inl (D.1 100, 12, .inl (putL lo 0 (cellL w q (k1 / (clM w 0)) (k1 % (clM w 0))))))]) hX dX7_layLine_44 cw_X7_227 (ct_X7_layCell  (by rw [belowOf_q hq]; exact cell_ne (Nat.div_lt_of_lt_mul hk1) (Nat.mod_lt _ hz))) 0 8 [0, 4, 1, 2] rfl rfl rfl rfl (by decide) rfl rfl ⟨by decide, by decide⟩ (Nat.le_of_ble_eq_true rfl) (Nat.le_refl _) (Nat.le_refl _) rfl ?_
    refine g_iconst hX dX7_layLine_47 kn_i_1 ?_
    subst hQ
    exact g_zretU hX dX7_layLine_48 (by exact bI_nar true) (true, putL lo 0 (cellL w q (k1 / (clM w 0)) (k1 % (clM w 0))), (cellL w q (k1 / (clM w 0)) (k1 % (clM w 0))).length) (⟨rfl, by rw [cellL_q hq]; exact layP_some (lineL_cell hk1)⟩) rfl (Nat.le_refl _) (Nat.le_refl _)
set_option maxRecDepth 100000 in
set_option maxHeartbeats 4000000 in
theorem ct_X7_line {l : Launch} {D : va_G} {a0 a1 a2 a3 a4 a5 a6 a7 a8 a9 a10 uk sz wr pa fl ln : Nat} {kp sd fa : Int32} {w q cl lo : Nat → Int32} {k a : Int32}  : Ct (S := Int32 × (Nat → Int32) × (Nat → Int32) × (Nat → Int32) × Nat) l D yX7_line cX7_line 3 (some .int) 10 239 0 0 [.ref a0, .int k, .int a] [(a0, .inr (8, [.ref a1, .int (nI uk), .int kp, .int sd, .ref a2, .ref a3, .int (nI sz), .int fa, .ref a4, .ref a5, .ref a6, .int (nI wr), .ref a7, .ref a8, .int (nI pa), .int (nI fl), .ref a9, .int (nI ln), .ref a10])), (a1, .inl (D.1 100, 3318, .inl w)), (a7, .inl (D.1 100, 16, .inl q)), (a8, .inl (D.1 100, 2, .inl cl)), (a9, .inl (D.1 100, 12, .inl lo))] (fun (r : Option Value) (u : Int32 × (Nat → Int32) × (Nat → Int32) × (Nat → Int32) × Nat) => match u with | (V, Qn, Cn, Lo, Ln) => r = (some (.int V)) ∧ (V = lineV w k a)) (fun (u : Int32 × (Nat → Int32) × (Nat → Int32) × (Nat → Int32) × Nat) => match u with | (V, Qn, Cn, Lo, Ln) => ([(a0, .inr (8, [.ref a1, .int (nI uk), .int kp, .int sd, .ref a2, .ref a3, .int (nI sz), .int fa, .ref a4, .ref a5, .ref a6, .int (nI wr), .ref a7, .ref a8, .int (nI pa), .int (nI fl), .ref a9, .int (nI Ln), .ref a10])), (a1, .inl (D.1 100, 3318, .inl w)), (a7, .inl (D.1 100, 16, .inl Qn)), (a8, .inl (D.1 100, 2, .inl Cn)), (a9, .inl (D.1 100, 12, .inl Lo))] : va_W)) := by
  refine Ct.ofG (by decide) (Nat.le_of_ble_eq_true rfl) ?_
  intro X hX
  have hX : CX X l D RX7 "line" cX7_line 3 (some .int) 10 239 0 0 := hX
  show G X (QM X 0 0 (fun (r : Option Value) (u : Int32 × (Nat → Int32) × (Nat → Int32) × (Nat → Int32) × Nat) => match u with | (V, Qn, Cn, Lo, Ln) => r = (some (.int V)) ∧ (V = lineV w k a)) (fun (u : Int32 × (Nat → Int32) × (Nat → Int32) × (Nat → Int32) × Nat) => match u with | (V, Qn, Cn, Lo, Ln) => ([(a0, .inr (8, [.ref a1, .int (nI uk), .int kp, .int sd, .ref a2, .ref a3, .int (nI sz), .int fa, .ref a4, .ref a5, .ref a6, .int (nI wr), .ref a7, .ref a8, .int (nI pa), .int (nI fl), .ref a9, .int (nI Ln), .ref a10])), (a1, .inl (D.1 100, 3318, .inl w)), (a7, .inl (D.1 100, 16, .inl Qn)), (a8, .inl (D.1 100, 2, .inl Cn)), (a9, .inl (D.1 100, 12, .inl Lo))] : va_W))) [(a0, .inr (8, [.ref a1, .int (nI uk), .int kp, .int sd, .ref a2, .ref a3, .int (nI sz), .int fa, .ref a4, .ref a5, .ref a6, .int (nI wr), .ref a7, .ref a8, .int (nI pa), .int (nI fl), .ref a9, .int (nI ln), .ref a10])), (a1, .inl (D.1 100, 3318, .inl w)), (a7, .inl (D.1 100, 16, .inl q)), (a8, .inl (D.1 100, 2, .inl cl)), (a9, .inl (D.1 100, 12, .inl lo))] 0 0 0 [some (.ref a0), some (.int k), some (.int a)] []
  generalize hQ : QM X 0 0 (fun (r : Option Value) (u : Int32 × (Nat → Int32) × (Nat → Int32) × (Nat → Int32) × Nat) => match u with | (V, Qn, Cn, Lo, Ln) => r = (some (.int V)) ∧ (V = lineV w k a)) (fun (u : Int32 × (Nat → Int32) × (Nat → Int32) × (Nat → Int32) × Nat) => match u with | (V, Qn, Cn, Lo, Ln) => ([(a0, .inr (8, [.ref a1, .int (nI uk), .int kp, .int sd, .ref a2, .ref a3, .int (nI sz), .int fa, .ref a4, .ref a5, .ref a6, .int (nI wr), .ref a7, .ref a8, .int (nI pa), .int (nI fl), .ref a9, .int (nI Ln), .ref a10])), (a1, .inl (D.1 100, 3318, .inl w)), (a7, .inl (D.1 100, 16, .inl Qn)), (a8, .inl (D.1 100, 2, .inl Cn)), (a9, .inl (D.1 100, 12, .inl Lo))] : va_W)) = Q
  refine g_aload_n hX dX7_line_0 rfl ?_
  refine g_callFv (ws' := [(a0, .inr (8, [.ref a1, .int (nI uk), .int kp, .int sd, .ref a2, .ref a3, .int (nI sz), .int fa, .ref a4, .ref a5, .ref a6, .int (nI wr), .ref a7, .ref a8, .int (nI pa), .int (nI fl), .ref a9, .int (nI ln), .ref a10])), (a1, .inl (D.1 100, 3318, .inl w)), (a7, .inl (D.1 100, 16, .inl (layQ w q))), (a8, .inl (D.1 100, 2, .inl (layC w cl))), (a9, .inl (D.1 100, 12, .inl lo))]) hX dX7_line_1 cw_X7_233 (ct_X7_layClasses  (by first | with_reducible assumption | rfl) (by first | with_reducible assumption | rfl) (by first | with_reducible assumption | rfl)) 0 8 [0, 1, 2, 3] rfl rfl rfl rfl (by decide) rfl rfl ⟨by decide, by decide⟩ (Nat.le_of_ble_eq_true rfl) (Nat.le_refl _) (Nat.le_refl _) rfl ?_
  refine g_aload_n hX dX7_line_4 rfl ?_
  refine g_iload_n hX dX7_line_5 rfl ?_
  refine g_call hX dX7_line_6 cw_X7_236 (ct_X7_layLine  (cq_q w q) (layC_0 w cl) (layC_1 w cl)) 0 8 [0, 1, 2, 3, 4] rfl rfl rfl rfl (by decide) rfl (fun ⟨_, _, _⟩ => rfl) ⟨by decide, by decide⟩ (Nat.le_of_ble_eq_true rfl) ⟨Nat.le_refl _, Nat.le_refl _⟩ (fun v u hp => ?_)
  obtain ⟨b6, Lo6, Ln6⟩ := u
  obtain ⟨rfl, hs6⟩ := hp
  show G X Q [(a0, .inr (8, [.ref a1, .int (nI uk), .int kp, .int sd, .ref a2, .ref a3, .int (nI sz), .int fa, .ref a4, .ref a5, .ref a6, .int (nI wr), .ref a7, .ref a8, .int (nI pa), .int (nI fl), .ref a9, .int (nI Ln6), .ref a10])), (a1, .inl (D.1 100, 3318, .inl w)), (a7, .inl (D.1 100, 16, .inl (layQ w q))), (a8, .inl (D.1 100, 2, .inl (layC w cl))), (a9, .inl (D.1 100, 12, .inl Lo6))] 0 0 9 [some (.ref a0), some (.int k), some (.int a)] [.int (bI b6)]
  refine g_ifb_ne (tgt := 15) hX dX7_line_9 (by decide) (fun h9 => ?_) (fun h9 => ?_)
  · skip
    obtain ⟨l9, hl9, hn9, e9, f9⟩ := layP_t hs6 h9
    subst e9
    subst f9
    refine g_iload_n hX dX7_line_15 rfl ?_
    refine g_if_ge (tgt := 24) hX dX7_line_16 (by decide) (fun h16 => ?_) (fun h16 => ?_)
    · skip
      obtain ⟨a1_, ha1, ea⟩ := i32_nat h16
      subst ea
      refine g_iload_n hX dX7_line_24 rfl ?_
      refine g_aload_n hX dX7_line_25 rfl ?_
      refine g_getf hX dX7_line_26 fk_X7_218 0 rfl rfl ?_
      refine g_icmpN_ge (tgt := 41) hX dX7_line_29 (by decide) (by omega) (by omega) (fun h29 => ?_) (fun h29 => ?_)
      · skip
        refine g_iconst hX dX7_line_41 kn_i_m1 ?_
        subst hQ
        exact g_zretU hX dX7_line_42 (vp_nar_int _) ((-1), (layQ w q), (layC w cl), (putL lo 0 l9), l9.length) (⟨rfl, (lineV_out hl9 ha1 h29).symm⟩) rfl (Nat.le_refl _) (Nat.le_refl _)
      · skip
        refine g_aload_n hX dX7_line_32 rfl ?_
        refine g_getf hX dX7_line_33 fk_X7_38 0 rfl rfl ?_
        refine g_iload_n hX dX7_line_36 rfl ?_
        refine g_iald hX dX7_line_37 4 rfl (by decide) (by omega) ?_
        refine g_goto (tgt := 42) hX dX7_line_38 (by decide) ?_
        subst hQ
        exact g_zretU hX dX7_line_42 (vp_nar_int _) ((putL lo 0 l9) a1_, (layQ w q), (layC w cl), (putL lo 0 l9), l9.length) (⟨rfl, (lineV_in hl9 ha1 (by omega)).symm⟩) rfl (Nat.le_refl _) (Nat.le_refl _)
    · skip
      refine g_ldc hX dX7_line_19 kc_X7_210 ?_
      refine g_goto (tgt := 42) hX dX7_line_21 (by decide) ?_
      subst hQ
      exact g_zretU hX dX7_line_42 (vp_nar_int _) ((-1000000002), (layQ w q), (layC w cl), (putL lo 0 l9), l9.length) (⟨rfl, (lineV_bad hl9 h16).symm⟩) rfl (Nat.le_refl _) (Nat.le_refl _)
  · skip
    refine g_ldc hX dX7_line_12 kc_X7_239 ?_
    subst hQ
    exact g_zretU hX dX7_line_14 (vp_nar_int _) ((-1000000001), (layQ w q), (layC w cl), Lo6, Ln6) (⟨rfl, (lineV_no (layP_f hs6 h9)).symm⟩) rfl (Nat.le_refl _) (Nat.le_refl _)
