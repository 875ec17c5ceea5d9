set_option maxRecDepth 100000 in
set_option maxHeartbeats 4000000 in
theorem ct_X1_place_8 {l : Launch} {D : va_G} {p0 p1 p2 p3 us most : Nat} {cO mb lk : Nat → Int32} {ct : Int32} {K : Nat → Bool} {C : Nat → Nat → Bool} {ps : List Nat} (H : plH K C most lk cO mb ps 8 us) : Ct (S := (Nat → Int32) × (Nat → Int32) × Int32) l D yX1_place cX1_place 5 (some .boolean) 0 0 0 0 [.ref p0, .int (nI 8), .int (nI us), .int (nI most)] [(p0, .inr (2, [.ref p1, .int ct, .ref p2, .ref p3])), (p1, .inl (D.1 100, 8, .inl cO)), (p2, .inl (D.1 100, 8, .inl lk)), (p3, .inl (D.1 100, 8, .inl mb))] (fun (r : Option Value) (u : (Nat → Int32) × (Nat → Int32) × Int32) => match u with | (cO2, mb2, ct2) => r = (some (.int (bI ((sv (okS K C most) 0 ps 0).isSome)))) ∧ (plP K C most 0 ps us cO mb cO2 mb2 ct2)) (fun (u : (Nat → Int32) × (Nat → Int32) × Int32) => match u with | (cO2, mb2, ct2) => ([(p0, .inr (2, [.ref p1, .int ct2, .ref p2, .ref p3])), (p1, .inl (D.1 100, 8, .inl cO2)), (p2, .inl (D.1 100, 8, .inl lk)), (p3, .inl (D.1 100, 8, .inl mb2))] : va_W)) := by
  refine Ct.ofG (by decide) (Nat.le_of_ble_eq_true rfl) ?_
  intro X hX
  have hX : CX X l D RX1 "place" cX1_place 5 (some .boolean) 0 0 0 0 := hX
  show G X (QM X 0 0 (fun (r : Option Value) (u : (Nat → Int32) × (Nat → Int32) × Int32) => match u with | (cO2, mb2, ct2) => r = (some (.int (bI ((sv (okS K C most) 0 ps 0).isSome)))) ∧ (plP K C most 0 ps us cO mb cO2 mb2 ct2)) (fun (u : (Nat → Int32) × (Nat → Int32) × Int32) => match u with | (cO2, mb2, ct2) => ([(p0, .inr (2, [.ref p1, .int ct2, .ref p2, .ref p3])), (p1, .inl (D.1 100, 8, .inl cO2)), (p2, .inl (D.1 100, 8, .inl lk)), (p3, .inl (D.1 100, 8, .inl mb2))] : va_W))) [(p0, .inr (2, [.ref p1, .int ct, .ref p2, .ref p3])), (p1, .inl (D.1 100, 8, .inl cO)), (p2, .inl (D.1 100, 8, .inl lk)), (p3, .inl (D.1 100, 8, .inl mb))] 0 0 0 [some (.ref p0), some (.int (nI 8)), some (.int (nI us)), some (.int (nI most)), none] []
  generalize hQ : QM X 0 0 (fun (r : Option Value) (u : (Nat → Int32) × (Nat → Int32) × Int32) => match u with | (cO2, mb2, ct2) => r = (some (.int (bI ((sv (okS K C most) 0 ps 0).isSome)))) ∧ (plP K C most 0 ps us cO mb cO2 mb2 ct2)) (fun (u : (Nat → Int32) × (Nat → Int32) × Int32) => match u with | (cO2, mb2, ct2) => ([(p0, .inr (2, [.ref p1, .int ct2, .ref p2, .ref p3])), (p1, .inl (D.1 100, 8, .inl cO2)), (p2, .inl (D.1 100, 8, .inl lk)), (p3, .inl (D.1 100, 8, .inl mb2))] : va_W)) = Q
  refine g_iload_n hX dX1_place_0 rfl ?_
  refine g_bipush hX dX1_place_1 kn_b_8 ?_
  refine g_icmpN_lt (tgt := 13) hX dX1_place_3 (by decide) (by decide) (by decide) (fun h => absurd h (by decide)) (fun _ => ?_)
  refine g_aload_n hX dX1_place_6 rfl ?_
  refine g_iload_n hX dX1_place_7 rfl ?_
  refine g_puti (ws' := [(p0, .inr (2, [.ref p1, .int (nI us), .ref p2, .ref p3])), (p1, .inl (D.1 100, 8, .inl cO)), (p2, .inl (D.1 100, 8, .inl lk)), (p3, .inl (D.1 100, 8, .inl mb))]) hX dX1_place_8 fp_X1_15 0 rfl (Nat.le_of_ble_eq_true rfl) rfl ?_
  refine g_iconst hX dX1_place_11 kn_i_1 ?_
  subst hQ
  exact g_zretU hX dX1_place_12 (by exact bI_nar true) (cO, mb, (nI us)) (⟨rfl, plP.done H⟩) rfl (Nat.le_refl _) (Nat.le_refl _)
set_option maxRecDepth 100000 in
set_option maxHeartbeats 4000000 in
theorem ct_X1_place_7 {l : Launch} {D : va_G} {p0 p1 p2 p3 us most : Nat} {cO mb lk : Nat → Int32} {ct : Int32} {K : Nat → Bool} {C : Nat → Nat → Bool} {ps : List Nat} (H : plH K C most lk cO mb ps 7 us) : Ct (S := (Nat → Int32) × (Nat → Int32) × Int32) l D yX1_place cX1_place 5 (some .boolean) 1 24 0 0 [.ref p0, .int (nI 7), .int (nI us), .int (nI most)] [(p0, .inr (2, [.ref p1, .int ct, .ref p2, .ref p3])), (p1, .inl (D.1 100, 8, .inl cO)), (p2, .inl (D.1 100, 8, .inl lk)), (p3, .inl (D.1 100, 8, .inl mb))] (fun (r : Option Value) (u : (Nat → Int32) × (Nat → Int32) × Int32) => match u with | (cO2, mb2, ct2) => r = (some (.int (bI ((sv (okS K C most) 1 ps 0).isSome)))) ∧ (plP K C most 1 ps us cO mb cO2 mb2 ct2)) (fun (u : (Nat → Int32) × (Nat → Int32) × Int32) => match u with | (cO2, mb2, ct2) => ([(p0, .inr (2, [.ref p1, .int ct2, .ref p2, .ref p3])), (p1, .inl (D.1 100, 8, .inl cO2)), (p2, .inl (D.1 100, 8, .inl lk)), (p3, .inl (D.1 100, 8, .inl mb2))] : va_W)) := by
  refine Ct.ofG (by decide) (Nat.le_of_ble_eq_true rfl) ?_
  intro X hX
  have hX : CX X l D RX1 "place" cX1_place 5 (some .boolean) 1 24 0 0 := hX
  show G X (QM X 0 0 (fun (r : Option Value) (u : (Nat → Int32) × (Nat → Int32) × Int32) => match u with | (cO2, mb2, ct2) => r = (some (.int (bI ((sv (okS K C most) 1 ps 0).isSome)))) ∧ (plP K C most 1 ps us cO mb cO2 mb2 ct2)) (fun (u : (Nat → Int32) × (Nat → Int32) × Int32) => match u with | (cO2, mb2, ct2) => ([(p0, .inr (2, [.ref p1, .int ct2, .ref p2, .ref p3])), (p1, .inl (D.1 100, 8, .inl cO2)), (p2, .inl (D.1 100, 8, .inl lk)), (p3, .inl (D.1 100, 8, .inl mb2))] : va_W))) [(p0, .inr (2, [.ref p1, .int ct, .ref p2, .ref p3])), (p1, .inl (D.1 100, 8, .inl cO)), (p2, .inl (D.1 100, 8, .inl lk)), (p3, .inl (D.1 100, 8, .inl mb))] 0 0 0 [some (.ref p0), some (.int (nI 7)), some (.int (nI us)), some (.int (nI most)), none] []
  generalize hQ : QM X 0 0 (fun (r : Option Value) (u : (Nat → Int32) × (Nat → Int32) × Int32) => match u with | (cO2, mb2, ct2) => r = (some (.int (bI ((sv (okS K C most) 1 ps 0).isSome)))) ∧ (plP K C most 1 ps us cO mb cO2 mb2 ct2)) (fun (u : (Nat → Int32) × (Nat → Int32) × Int32) => match u with | (cO2, mb2, ct2) => ([(p0, .inr (2, [.ref p1, .int ct2, .ref p2, .ref p3])), (p1, .inl (D.1 100, 8, .inl cO2)), (p2, .inl (D.1 100, 8, .inl lk)), (p3, .inl (D.1 100, 8, .inl mb2))] : va_W)) = Q
  refine g_iload_n hX dX1_place_0 rfl ?_
  refine g_bipush hX dX1_place_1 kn_b_8 ?_
  refine g_icmpN_lt (tgt := 13) hX dX1_place_3 (by decide) (by decide) (by decide) (fun _ => ?_) (fun h => absurd (by decide) h)
  refine g_aload_n hX dX1_place_13 rfl ?_
  refine g_getf hX dX1_place_14 fk_X1_19 0 rfl rfl ?_
  refine g_iload_n hX dX1_place_17 rfl ?_
  refine g_iald hX dX1_place_18 2 rfl (by decide) (by omega) ?_
  refine g_if_ne (tgt := 39) hX dX1_place_19 (by decide) (fun h19 => ?_) (fun h19 => ?_)
  · skip
    have hK := H.kn (by decide) h19
    have hm8 := H.mst
    have huc := H.usc
    refine g_iconst hX dX1_place_39 kn_i_0 ?_
    refine g_istore (L' := [some (.ref p0), some (.int (nI 7)), some (.int (nI us)), some (.int (nI most)), some (.int (nI 0))]) hX dX1_place_40 (by decide) rfl ?_
    have loop42 : ∀ z : Nat × (Nat → Int32) × (Nat → Int32) × Int32, match z with | (k, cO1, mb1, ct1) => (k ≤ us) → (plH K C most lk cO1 mb1 ps 7 us) → (plE 7 us cO mb cO1 mb1) → (plR K C most 0 ps k) → G X Q [(p0, .inr (2, [.ref p1, .int ct1, .ref p2, .ref p3])), (p1, .inl (D.1 100, 8, .inl cO1)), (p2, .inl (D.1 100, 8, .inl lk)), (p3, .inl (D.1 100, 8, .inl mb1))] 0 0 42 [some (.ref p0), some (.int (nI 7)), some (.int (nI us)), some (.int (nI most)), some (.int (nI k))] [] := by
      refine loopM (fun z : Nat × (Nat → Int32) × (Nat → Int32) × Int32 => match z with | (k, cO1, mb1, ct1) => us - k) (fun z ih42 => ?_)
      obtain ⟨k, cO1, mb1, ct1⟩ := z
      intro hku0 H1 he hr
      refine g_iload hX dX1_place_42 rfl ?_
      refine g_iload_n hX dX1_place_44 rfl ?_
      refine g_icmpN_ge (tgt := 123) hX dX1_place_45 (by decide) (by omega) (by omega) (fun h45 => ?_) (fun h45 => ?_)
      · skip
        obtain rfl : us = k := by omega
        refine g_iload_n hX dX1_place_123 rfl ?_
        refine g_iload_n hX dX1_place_124 rfl ?_
        refine g_icmpN_lt (tgt := 130) hX dX1_place_125 (by decide) (by omega) (by omega) (fun h125 => ?_) (fun h125 => ?_)
        · skip
          have hlast := hr.last H1 (by decide) hK (by omega)
          refine g_aload_n hX dX1_place_130 rfl ?_
          refine g_getf hX dX1_place_131 fk_X1_9 0 rfl rfl ?_
          refine g_iload_n hX dX1_place_134 rfl ?_
          refine g_iload_n hX dX1_place_135 rfl ?_
          refine g_iast (ws' := [(p0, .inr (2, [.ref p1, .int ct1, .ref p2, .ref p3])), (p1, .inl (D.1 100, 8, .inl (upd cO1 7 (nI us)))), (p2, .inl (D.1 100, 8, .inl lk)), (p3, .inl (D.1 100, 8, .inl mb1))]) hX dX1_place_136 1 rfl (by decide) (by omega) rfl ?_
          refine g_aload_n hX dX1_place_137 rfl ?_
          refine g_getf hX dX1_place_138 fk_X1_22 0 rfl rfl ?_
          refine g_iload_n hX dX1_place_141 rfl ?_
          refine g_iconst hX dX1_place_142 kn_i_1 ?_
          refine g_iload_n hX dX1_place_143 rfl ?_
          refine g_ishl hX dX1_place_144 ?_
          refine g_iast (ws' := [(p0, .inr (2, [.ref p1, .int ct1, .ref p2, .ref p3])), (p1, .inl (D.1 100, 8, .inl (upd cO1 7 (nI us)))), (p2, .inl (D.1 100, 8, .inl lk)), (p3, .inl (D.1 100, 8, .inl (upd mb1 us ((nI 1) <<< ((nI 7) &&& 31)))))]) hX dX1_place_145 3 rfl (by decide) (by omega) rfl ?_
          refine g_aload_n hX dX1_place_146 rfl ?_
          refine g_iload_n hX dX1_place_147 rfl ?_
          refine g_iconst hX dX1_place_148 kn_i_1 ?_
          refine g_iaddN hX dX1_place_149 ?_
          refine g_top (v' := nI 8) (rfl) ?_
          refine g_iload_n hX dX1_place_150 rfl ?_
          refine g_iconst hX dX1_place_151 kn_i_1 ?_
          refine g_iaddN hX dX1_place_152 ?_
          refine g_iload_n hX dX1_place_153 rfl ?_
          refine g_callS hX dX1_place_154 cw_X1_35 (ct_X1_place_8  (H1.new (by decide) hK (by omega))) [0, 1, 2, 3] rfl rfl (by decide) rfl (fun ⟨_, _, _⟩ => rfl) ⟨by decide, by decide⟩ (Nat.le_of_ble_eq_true rfl) ⟨Nat.le_refl _, Nat.le_refl _⟩ (fun v u hp => ?_)
          obtain ⟨cO2154, mb2154, ct2154⟩ := u
          obtain ⟨rfl, hp154⟩ := hp
          show G X Q [(p0, .inr (2, [.ref p1, .int ct2154, .ref p2, .ref p3])), (p1, .inl (D.1 100, 8, .inl cO2154)), (p2, .inl (D.1 100, 8, .inl lk)), (p3, .inl (D.1 100, 8, .inl mb2154))] 0 0 157 [some (.ref p0), some (.int (nI 7)), some (.int (nI us)), some (.int (nI most)), some (.int (nI us))] [.int (bI ((sv (okS K C most) 0 (us :: ps) 0).isSome))]
          subst hQ
          exact g_zretU hX dX1_place_157 (bI_nar _) (cO2154, mb2154, ct2154) (⟨by rw [hlast], plP.last H.len he hlast hp154⟩) rfl (Nat.le_refl _) (Nat.le_refl _)
        · skip
          have hfull := hr.full H1 hK (by omega)
          refine g_iconst hX dX1_place_128 kn_i_0 ?_
          subst hQ
          exact g_zretU hX dX1_place_129 (by exact bI_nar false) (cO1, mb1, ct1) (⟨by rw [hfull]; rfl, plP.none H.len he hfull⟩) rfl (Nat.le_refl _) (Nat.le_refl _)
      · skip
        have hku : k < us := by omega
        refine g_aload_n hX dX1_place_48 rfl ?_
        refine g_getf hX dX1_place_49 fk_X1_22 0 rfl rfl ?_
        refine g_iload hX dX1_place_52 rfl ?_
        refine g_iald hX dX1_place_54 3 rfl (by decide) (by omega) ?_
        refine g_aload_n hX dX1_place_55 rfl ?_
        refine g_getf hX dX1_place_56 fk_X1_19 0 rfl rfl ?_
        refine g_iload_n hX dX1_place_59 rfl ?_
        refine g_iald hX dX1_place_60 2 rfl (by decide) (by omega) ?_
        refine g_iconst hX dX1_place_61 kn_i_m1 ?_
        refine g_ixor hX dX1_place_62 ?_
        refine g_iand hX dX1_place_63 ?_
        refine g_if_ne (tgt := 117) hX dX1_place_64 (by decide) (fun h64 => ?_) (fun h64 => ?_)
        · skip
          refine g_iincN (L' := [some (.ref p0), some (.int (nI 7)), some (.int (nI us)), some (.int (nI most)), some (.int (nI (k + 1)))]) hX dX1_place_117 rfl (by decide) rfl ?_
          refine g_goto (tgt := 42) hX dX1_place_120 (by decide) ?_
          exact g_fin (ih42 (k + 1, cO1, mb1, ct1) (by show us - (k + 1) < us - k; omega) (by omega) H1 he (hr.no (by omega) (fun q => h64 ((H1.fit (by decide) hK hku).mpr q)))) (rfl) rfl ⟨rfl, rfl, rfl, rfl, rfl, trivial⟩
        · skip
          have hok := (H1.fit (by decide) hK hku).mp h64
          refine g_aload_n hX dX1_place_67 rfl ?_
          refine g_getf hX dX1_place_68 fk_X1_9 0 rfl rfl ?_
          refine g_iload_n hX dX1_place_71 rfl ?_
          refine g_iload hX dX1_place_72 rfl ?_
          refine g_iast (ws' := [(p0, .inr (2, [.ref p1, .int ct1, .ref p2, .ref p3])), (p1, .inl (D.1 100, 8, .inl (upd cO1 7 (nI k)))), (p2, .inl (D.1 100, 8, .inl lk)), (p3, .inl (D.1 100, 8, .inl mb1))]) hX dX1_place_74 1 rfl (by decide) (by omega) rfl ?_
          refine g_aload_n hX dX1_place_75 rfl ?_
          refine g_getf hX dX1_place_76 fk_X1_22 0 rfl rfl ?_
          refine g_iload hX dX1_place_79 rfl ?_
          refine g_dup2 hX dX1_place_81 rfl rfl ?_
          refine g_iald hX dX1_place_82 3 rfl (by decide) (by omega) ?_
          refine g_iconst hX dX1_place_83 kn_i_1 ?_
          refine g_iload_n hX dX1_place_84 rfl ?_
          refine g_ishl hX dX1_place_85 ?_
          refine g_ior hX dX1_place_86 ?_
          refine g_iast (ws' := [(p0, .inr (2, [.ref p1, .int ct1, .ref p2, .ref p3])), (p1, .inl (D.1 100, 8, .inl (upd cO1 7 (nI k)))), (p2, .inl (D.1 100, 8, .inl lk)), (p3, .inl (D.1 100, 8, .inl (upd mb1 k ((mb1 k) ||| ((nI 1) <<< ((nI 7) &&& 31))))))]) hX dX1_place_87 3 rfl (by decide) (by omega) rfl ?_
          refine g_aload_n hX dX1_place_88 rfl ?_
          refine g_iload_n hX dX1_place_89 rfl ?_
          refine g_iconst hX dX1_place_90 kn_i_1 ?_
          refine g_iaddN hX dX1_place_91 ?_
          refine g_top (v' := nI 8) (rfl) ?_
          refine g_iload_n hX dX1_place_92 rfl ?_
          refine g_iload_n hX dX1_place_93 rfl ?_
          refine g_callS hX dX1_place_94 cw_X1_35 (ct_X1_place_8  (H1.inn (by decide) hK hku)) [0, 1, 2, 3] rfl rfl (by decide) rfl (fun ⟨_, _, _⟩ => rfl) ⟨by decide, by decide⟩ (Nat.le_of_ble_eq_true rfl) ⟨Nat.le_refl _, Nat.le_refl _⟩ (fun v u hp => ?_)
          obtain ⟨cO294, mb294, ct294⟩ := u
          obtain ⟨rfl, hp94⟩ := hp
          show G X Q [(p0, .inr (2, [.ref p1, .int ct294, .ref p2, .ref p3])), (p1, .inl (D.1 100, 8, .inl cO294)), (p2, .inl (D.1 100, 8, .inl lk)), (p3, .inl (D.1 100, 8, .inl mb294))] 0 0 97 [some (.ref p0), some (.int (nI 7)), some (.int (nI us)), some (.int (nI most)), some (.int (nI k))] [.int (bI ((sv (okS K C most) 0 (k :: ps) 0).isSome))]
          refine g_ifb_eq (tgt := 102) hX dX1_place_97 (by decide) (fun h97 => ?_) (fun h97 => ?_)
          · skip
            refine g_aload_n hX dX1_place_102 rfl ?_
            refine g_getf hX dX1_place_103 fk_X1_22 0 rfl rfl ?_
            refine g_iload hX dX1_place_106 rfl ?_
            refine g_dup2 hX dX1_place_108 rfl rfl ?_
            refine g_iald hX dX1_place_109 3 rfl (by decide) (by omega) ?_
            refine g_iconst hX dX1_place_110 kn_i_1 ?_
            refine g_iload_n hX dX1_place_111 rfl ?_
            refine g_ishl hX dX1_place_112 ?_
            refine g_iconst hX dX1_place_113 kn_i_m1 ?_
            refine g_ixor hX dX1_place_114 ?_
            refine g_iand hX dX1_place_115 ?_
            refine g_iast (ws' := [(p0, .inr (2, [.ref p1, .int ct294, .ref p2, .ref p3])), (p1, .inl (D.1 100, 8, .inl cO294)), (p2, .inl (D.1 100, 8, .inl lk)), (p3, .inl (D.1 100, 8, .inl (upd mb294 k ((mb294 k) &&& (((nI 1) <<< ((nI 7) &&& 31)) ^^^ (-1))))))]) hX dX1_place_116 3 rfl (by decide) (by omega) rfl ?_
            refine g_iincN (L' := [some (.ref p0), some (.int (nI 7)), some (.int (nI us)), some (.int (nI most)), some (.int (nI (k + 1)))]) hX dX1_place_117 rfl (by decide) rfl ?_
            refine g_goto (tgt := 42) hX dX1_place_120 (by decide) ?_
            have he2 := plE.back he H1 (by decide) hku h97 hp94
            exact g_fin (ih42 (k + 1, cO294, upd mb294 k ((mb294 k) &&& (((nI 1) <<< ((nI 7) &&& 31)) ^^^ (-1))), ct294) (by show us - (k + 1) < us - k; omega) (by omega) (H.same he2.1 he2.2) he2 (hr.none (by omega) hok h97)) (rfl) rfl ⟨rfl, rfl, rfl, rfl, rfl, trivial⟩
          · skip
            have e97 := hr.some (by omega) hok h97
            refine g_iconst hX dX1_place_100 kn_i_1 ?_
            subst hQ
            exact g_zretU hX dX1_place_101 (by exact bI_nar true) (cO294, mb294, ct294) (⟨by rw [e97, h97]; rfl, plP.some e97 h97 hp94⟩) rfl (Nat.le_refl _) (Nat.le_refl _)
    exact g_fin (loop42 (0, cO, mb, ct) (by omega) H plE.id plR.zero) (rfl) rfl ⟨rfl, rfl, rfl, rfl, rfl, trivial⟩
  · skip
    have hm8 := H.mst
    have huc := H.usc
    refine g_aload_n hX dX1_place_22 rfl ?_
    refine g_getf hX dX1_place_23 fk_X1_9 0 rfl rfl ?_
    refine g_iload_n hX dX1_place_26 rfl ?_
    refine g_iconst hX dX1_place_27 kn_i_m1 ?_
    refine g_iast (ws' := [(p0, .inr (2, [.ref p1, .int ct, .ref p2, .ref p3])), (p1, .inl (D.1 100, 8, .inl (upd cO 7 (-1)))), (p2, .inl (D.1 100, 8, .inl lk)), (p3, .inl (D.1 100, 8, .inl mb))]) hX dX1_place_28 1 rfl (by decide) (by omega) rfl ?_
    refine g_aload_n hX dX1_place_29 rfl ?_
    refine g_iload_n hX dX1_place_30 rfl ?_
    refine g_iconst hX dX1_place_31 kn_i_1 ?_
    refine g_iaddN hX dX1_place_32 ?_
    refine g_top (v' := nI 8) (rfl) ?_
    refine g_iload_n hX dX1_place_33 rfl ?_
    refine g_iload_n hX dX1_place_34 rfl ?_
    refine g_callS hX dX1_place_35 cw_X1_35 (ct_X1_place_8  (H.skip (by decide) h19)) [0, 1, 2, 3] rfl rfl (by decide) rfl (fun ⟨_, _, _⟩ => rfl) ⟨by decide, by decide⟩ (Nat.le_of_ble_eq_true rfl) ⟨Nat.le_refl _, Nat.le_refl _⟩ (fun v u hp => ?_)
    obtain ⟨cO235, mb235, ct235⟩ := u
    obtain ⟨rfl, hp35⟩ := hp
    show G X Q [(p0, .inr (2, [.ref p1, .int ct235, .ref p2, .ref p3])), (p1, .inl (D.1 100, 8, .inl cO235)), (p2, .inl (D.1 100, 8, .inl lk)), (p3, .inl (D.1 100, 8, .inl mb235))] 0 0 38 [some (.ref p0), some (.int (nI 7)), some (.int (nI us)), some (.int (nI most)), none] [.int (bI ((sv (okS K C most) 0 (0 :: ps) 0).isSome))]
    subst hQ
    exact g_zretU hX dX1_place_38 (bI_nar _) (cO235, mb235, ct235) (⟨by rw [sv_skip (n := 0) (by rw [H.len]; exact H.un (by decide) h19)], plP.skip (n := 0) H (by decide) h19 hp35⟩) rfl (Nat.le_refl _) (Nat.le_refl _)
