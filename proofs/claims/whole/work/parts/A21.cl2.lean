set_option maxRecDepth 100000 in
set_option maxHeartbeats 4000000 in
theorem ct_X3_readBy {l : Launch} {D : va_G} {d0 d1 e0 e1 e2 e3 e4 sz pa : Nat} {cl fa ev : Int32} {t : Nat → Nat} {v : Nat → Int32} (hsz : sz ≤ 150) (ht : ∀ k, t k < 256) (hpa : pa ≤ sz) : Ct (S := Nat × Nat × Int32 × (Nat → Int32) × Int32) l D yX3_readBy cX3_readBy 4 none 5 109 0 0 [.ref d0] [(d0, .inr (4, [.ref d1, .int (nI sz), .int (nI pa), .int cl, .int (nI 0), .int fa, .ref e0])), (d1, .inl (D.1 101, 150, .inl (fun k => nI (t k)))), (e0, .inr (6, [.int (v 0), .ref e1, .ref e2, .ref e3, .ref e4, .int ev])), (e1, .inl (D.1 100, 16, .inl (sE v))), (e2, .inl (D.1 100, 8, .inl (sB v))), (e3, .inl (D.1 100, 5, .inl (sT v))), (e4, .inl (D.1 100, 64, .inl (sG v)))] (fun (rv : Option Value) (u : Nat × Nat × Int32 × (Nat → Int32) × Int32) => match u with | (A, F, P, W, ev2) => rv = none ∧ (fltP 0 fa F P A sz (qSemi t sz (qBy t sz v pa)) (fun a => A = a.1 ∧ W = a.2))) (fun (u : Nat × Nat × Int32 × (Nat → Int32) × Int32) => match u with | (A, F, P, W, ev2) => ([(d0, .inr (4, [.ref d1, .int (nI sz), .int (nI A), .int cl, .int (nI F), .int P, .ref e0])), (d1, .inl (D.1 101, 150, .inl (fun k => nI (t k)))), (e0, .inr (6, [.int (W 0), .ref e1, .ref e2, .ref e3, .ref e4, .int ev2])), (e1, .inl (D.1 100, 16, .inl (sE W))), (e2, .inl (D.1 100, 8, .inl (sB W))), (e3, .inl (D.1 100, 5, .inl (sT W))), (e4, .inl (D.1 100, 64, .inl (sG W)))] : va_W)) := by
  refine Ct.ofG (by decide) (Nat.le_of_ble_eq_true rfl) ?_
  intro X hX
  have hX : CX X l D RX3 "readBy" cX3_readBy 4 none 5 109 0 0 := hX
  show G X (QM X 0 0 (fun (rv : Option Value) (u : Nat × Nat × Int32 × (Nat → Int32) × Int32) => match u with | (A, F, P, W, ev2) => rv = none ∧ (fltP 0 fa F P A sz (qSemi t sz (qBy t sz v pa)) (fun a => A = a.1 ∧ W = a.2))) (fun (u : Nat × Nat × Int32 × (Nat → Int32) × Int32) => match u with | (A, F, P, W, ev2) => ([(d0, .inr (4, [.ref d1, .int (nI sz), .int (nI A), .int cl, .int (nI F), .int P, .ref e0])), (d1, .inl (D.1 101, 150, .inl (fun k => nI (t k)))), (e0, .inr (6, [.int (W 0), .ref e1, .ref e2, .ref e3, .ref e4, .int ev2])), (e1, .inl (D.1 100, 16, .inl (sE W))), (e2, .inl (D.1 100, 8, .inl (sB W))), (e3, .inl (D.1 100, 5, .inl (sT W))), (e4, .inl (D.1 100, 64, .inl (sG W)))] : va_W))) [(d0, .inr (4, [.ref d1, .int (nI sz), .int (nI pa), .int cl, .int (nI 0), .int fa, .ref e0])), (d1, .inl (D.1 101, 150, .inl (fun k => nI (t k)))), (e0, .inr (6, [.int (v 0), .ref e1, .ref e2, .ref e3, .ref e4, .int ev])), (e1, .inl (D.1 100, 16, .inl (sE v))), (e2, .inl (D.1 100, 8, .inl (sB v))), (e3, .inl (D.1 100, 5, .inl (sT v))), (e4, .inl (D.1 100, 64, .inl (sG v)))] 0 0 0 [some (.ref d0), none, none, none] []
  generalize hQ : QM X 0 0 (fun (rv : Option Value) (u : Nat × Nat × Int32 × (Nat → Int32) × Int32) => match u with | (A, F, P, W, ev2) => rv = none ∧ (fltP 0 fa F P A sz (qSemi t sz (qBy t sz v pa)) (fun a => A = a.1 ∧ W = a.2))) (fun (u : Nat × Nat × Int32 × (Nat → Int32) × Int32) => match u with | (A, F, P, W, ev2) => ([(d0, .inr (4, [.ref d1, .int (nI sz), .int (nI A), .int cl, .int (nI F), .int P, .ref e0])), (d1, .inl (D.1 101, 150, .inl (fun k => nI (t k)))), (e0, .inr (6, [.int (W 0), .ref e1, .ref e2, .ref e3, .ref e4, .int ev2])), (e1, .inl (D.1 100, 16, .inl (sE W))), (e2, .inl (D.1 100, 8, .inl (sB W))), (e3, .inl (D.1 100, 5, .inl (sT W))), (e4, .inl (D.1 100, 64, .inl (sG W)))] : va_W)) = Q
  refine g_aload_n hX dX3_readBy_0 rfl ?_
  refine g_callFv (ws' := [(d0, .inr (4, [.ref d1, .int (nI sz), .int (nI (sk t sz pa)), .int cl, .int (nI 0), .int fa, .ref e0])), (d1, .inl (D.1 101, 150, .inl (fun k => nI (t k)))), (e0, .inr (6, [.int (v 0), .ref e1, .ref e2, .ref e3, .ref e4, .int ev])), (e1, .inl (D.1 100, 16, .inl (sE v))), (e2, .inl (D.1 100, 8, .inl (sB v))), (e3, .inl (D.1 100, 5, .inl (sT v))), (e4, .inl (D.1 100, 64, .inl (sG v)))]) hX dX3_readBy_1 cw_X3_42 (ct_X3_skipBlanks  (by omega) (by first | with_reducible assumption | assumption) (by omega)) 0 4 [0, 1] rfl rfl rfl rfl (by decide) rfl rfl ⟨by decide, by decide⟩ (Nat.le_of_ble_eq_true rfl) (Nat.le_refl _) (Nat.le_refl _) rfl ?_
  have hb0 := sk_le (t := t) hpa
  refine g_aload_n hX dX3_readBy_4 rfl ?_
  refine g_getf hX dX3_readBy_5 fk_X3_19 0 rfl rfl ?_
  refine g_istore_n (L' := [some (.ref d0), some (.int (nI (sk t sz pa))), none, none]) hX dX3_readBy_8 (by decide) rfl ?_
  refine g_aload_n hX dX3_readBy_9 rfl ?_
  refine g_callFi (ws' := [(d0, .inr (4, [.ref d1, .int (nI sz), .int (nI (sm t sz (sk t sz pa))), .int cl, .int (nI 0), .int fa, .ref e0])), (d1, .inl (D.1 101, 150, .inl (fun k => nI (t k)))), (e0, .inr (6, [.int (v 0), .ref e1, .ref e2, .ref e3, .ref e4, .int ev])), (e1, .inl (D.1 100, 16, .inl (sE v))), (e2, .inl (D.1 100, 8, .inl (sB v))), (e3, .inl (D.1 100, 5, .inl (sT v))), (e4, .inl (D.1 100, 64, .inl (sG v)))]) hX dX3_readBy_10 cw_X3_48 (ct_X3_passWord  (by omega) (by first | with_reducible assumption | assumption) (by omega)) 0 4 [0, 1] rfl rfl rfl rfl (by decide) rfl rfl ⟨by decide, by decide⟩ (Nat.le_of_ble_eq_true rfl) (Nat.le_refl _) (Nat.le_refl _) rfl ?_
  refine g_istore_n (L' := [some (.ref d0), some (.int (nI (sk t sz pa))), some (.int (nI (sm t sz (sk t sz pa) - (sk t sz pa)))), none]) hX dX3_readBy_13 (by decide) rfl ?_
  have hge := sm_ge (t := t) (sz := sz) (p := sk t sz pa)
  have hle := sm_le (t := t) hb0
  refine g_iconst hX dX3_readBy_14 kn_i_0 ?_
  refine g_istore_n (L' := [some (.ref d0), some (.int (nI (sk t sz pa))), some (.int (nI (sm t sz (sk t sz pa) - (sk t sz pa)))), some (.int (nI 0))]) hX dX3_readBy_15 (by decide) rfl ?_
  refine g_aload_n hX dX3_readBy_16 rfl ?_
  refine g_iload_n hX dX3_readBy_17 rfl ?_
  refine g_iload_n hX dX3_readBy_18 rfl ?_
  refine g_ldcS (i := 5) hX (by decide) rfl rfl dX3_readBy_19 ?_
  refine g_callRi hX dX3_readBy_21 cw_X3_65 (ct_X3_isWord  (by omega) (by first | with_reducible assumption | assumption) (by omega) (by omega)) 0 4 [0, 1] rfl rfl rfl rfl (by decide) rfl ⟨by decide, by decide⟩ (Nat.le_of_ble_eq_true rfl) (Nat.le_refl _) (Nat.le_refl _) ?_
  refine g_ifb_eq (tgt := 32) hX dX3_readBy_24 (by decide) (fun h24 => ?_) (fun h24 => ?_)
  · skip
    refine g_aload_n hX dX3_readBy_32 rfl ?_
    refine g_iload_n hX dX3_readBy_33 rfl ?_
    refine g_iload_n hX dX3_readBy_34 rfl ?_
    refine g_ldcS (i := 6) hX (by decide) rfl rfl dX3_readBy_35 ?_
    refine g_callRi hX dX3_readBy_37 cw_X3_65 (ct_X3_isWord  (by omega) (by first | with_reducible assumption | assumption) (by omega) (by omega)) 0 4 [0, 1] rfl rfl rfl rfl (by decide) rfl ⟨by decide, by decide⟩ (Nat.le_of_ble_eq_true rfl) (Nat.le_refl _) (Nat.le_refl _) ?_
    refine g_ifb_eq (tgt := 48) hX dX3_readBy_40 (by decide) (fun h40 => ?_) (fun h40 => ?_)
    · skip
      refine g_aload_n hX dX3_readBy_48 rfl ?_
      refine g_iload_n hX dX3_readBy_49 rfl ?_
      refine g_iload_n hX dX3_readBy_50 rfl ?_
      refine g_ldcS (i := 7) hX (by decide) rfl rfl dX3_readBy_51 ?_
      refine g_callRi hX dX3_readBy_53 cw_X3_65 (ct_X3_isWord  (by omega) (by first | with_reducible assumption | assumption) (by omega) (by omega)) 0 4 [0, 1] rfl rfl rfl rfl (by decide) rfl ⟨by decide, by decide⟩ (Nat.le_of_ble_eq_true rfl) (Nat.le_refl _) (Nat.le_refl _) ?_
      refine g_ifb_ne (tgt := 65) hX dX3_readBy_56 (by decide) (fun h56 => ?_) (fun h56 => ?_)
      · skip
        refine g_aload_n hX dX3_readBy_65 rfl ?_
        refine g_bipush hX dX3_readBy_66 kn_b_59 ?_
        refine g_call hX dX3_readBy_68 cw_X3_90 (ct_X3_pass  (by omega) (by first | with_reducible assumption | assumption) (by omega) (by omega) (by omega)) 0 4 [0, 1] rfl rfl rfl rfl (by decide) rfl (fun ⟨_, _, _⟩ => rfl) ⟨by decide, by decide⟩ (Nat.le_of_ble_eq_true rfl) ⟨Nat.le_refl _, Nat.le_refl _⟩ (fun v u hp => ?_)
        obtain ⟨A68, F68, P68⟩ := u
        obtain ⟨rfl, hs68⟩ := hp
        show G X Q [(d0, .inr (4, [.ref d1, .int (nI sz), .int (nI A68), .int cl, .int (nI F68), .int P68, .ref e0])), (d1, .inl (D.1 101, 150, .inl (fun k => nI (t k)))), (e0, .inr (6, [.int (v 0), .ref e1, .ref e2, .ref e3, .ref e4, .int ev])), (e1, .inl (D.1 100, 16, .inl (sE v))), (e2, .inl (D.1 100, 8, .inl (sB v))), (e3, .inl (D.1 100, 5, .inl (sT v))), (e4, .inl (D.1 100, 64, .inl (sG v)))] 0 0 71 [some (.ref d0), some (.int (nI (sk t sz pa))), some (.int (nI (sm t sz (sk t sz pa) - (sk t sz pa)))), some (.int (nI 0))] []
        have hF68 : F68 < 100 := flt_F hs68 (by decide) (fun e he => qWant_F he)
        refine g_aload_n hX dX3_readBy_71 rfl ?_
        refine g_getf hX dX3_readBy_72 fk_X3_25 0 rfl rfl ?_
        refine g_ifN_ne (tgt := 87) hX dX3_readBy_75 (by decide) (by omega) (fun h75 => ?_) (fun h75 => ?_)
        · skip
          subst hQ
          exact g_vretU hX dX3_readBy_87 (A68, F68, P68, v, ev) (⟨rfl, flt_any (semi_seq (flt_pass (A := sm t sz (sk t sz pa)) (a := (sm t sz (sk t sz pa), upd v 5 (nI 0))) (by omega) (by_sum (wd_t hge strW_all.2.2.2.2.2.2.2 h56)) ⟨rfl, rfl⟩) hs68) h75⟩) rfl (Nat.le_refl _) (Nat.le_refl _)
        · skip
          refine g_aload_n hX dX3_readBy_78 rfl ?_
          refine g_getf hX dX3_readBy_79 fk_X3_34 0 rfl rfl ?_
          refine g_iconst hX dX3_readBy_82 kn_i_4 ?_
          refine g_iload_n hX dX3_readBy_83 rfl ?_
          refine g_callFv (ws' := [(d0, .inr (4, [.ref d1, .int (nI sz), .int (nI A68), .int cl, .int (nI F68), .int P68, .ref e0])), (d1, .inl (D.1 101, 150, .inl (fun k => nI (t k)))), (e0, .inr (6, [.int ((upd v (1 + 4) (nI 0)) 0), .ref e1, .ref e2, .ref e3, .ref e4, .int (ev + nI 1)])), (e1, .inl (D.1 100, 16, .inl (sE (upd v (1 + 4) (nI 0))))), (e2, .inl (D.1 100, 8, .inl (sB (upd v (1 + 4) (nI 0))))), (e3, .inl (D.1 100, 5, .inl (sT (upd v (1 + 4) (nI 0))))), (e4, .inl (D.1 100, 64, .inl (sG (upd v (1 + 4) (nI 0)))))]) hX dX3_readBy_84 cw_X3_123 (ct_X5_setTerm  (by omega)) 2 6 [2, 3, 4, 5, 6] rfl rfl rfl rfl (by decide) rfl rfl ⟨by decide, by decide⟩ (Nat.le_of_ble_eq_true rfl) (Nat.le_refl _) (Nat.le_refl _) rfl ?_
          subst hQ
          exact g_vretU hX dX3_readBy_87 (A68, F68, P68, (upd v (1 + 4) (nI 0)), (ev + nI 1)) (⟨rfl, (semi_seq (flt_pass (A := sm t sz (sk t sz pa)) (a := (sm t sz (sk t sz pa), upd v 5 (nI 0))) (by omega) (by_sum (wd_t hge strW_all.2.2.2.2.2.2.2 h56)) ⟨rfl, rfl⟩) hs68)⟩) rfl (Nat.le_refl _) (Nat.le_refl _)
      · skip
        refine g_aload_n hX dX3_readBy_59 rfl ?_
        refine g_iconst hX dX3_readBy_60 kn_i_1 ?_
        refine g_iload_n hX dX3_readBy_61 rfl ?_
        refine g_call hX dX3_readBy_62 cw_X3_83 (ct_X3_fail  (by omega)) 0 4 [0] rfl rfl rfl rfl (by decide) rfl (fun ⟨_, _⟩ => rfl) ⟨by decide, by decide⟩ (Nat.le_of_ble_eq_true rfl) ⟨Nat.le_refl _, Nat.le_refl _⟩ (fun v u hp => ?_)
        obtain ⟨F62, P62⟩ := u
        obtain ⟨rfl, hs62⟩ := hp
        show G X Q [(d0, .inr (4, [.ref d1, .int (nI sz), .int (nI (sm t sz (sk t sz pa))), .int cl, .int (nI F62), .int P62, .ref e0])), (d1, .inl (D.1 101, 150, .inl (fun k => nI (t k)))), (e0, .inr (6, [.int (v 0), .ref e1, .ref e2, .ref e3, .ref e4, .int ev])), (e1, .inl (D.1 100, 16, .inl (sE v))), (e2, .inl (D.1 100, 8, .inl (sB v))), (e3, .inl (D.1 100, 5, .inl (sT v))), (e4, .inl (D.1 100, 64, .inl (sG v)))] 0 0 65 [some (.ref d0), some (.int (nI (sk t sz pa))), some (.int (nI (sm t sz (sk t sz pa) - (sk t sz pa)))), some (.int (nI 0))] []
        have hb1 := hs62.1 rfl
        have hF62 : F62 < 100 := by omega
        have hy : fltP 0 fa F62 P62 (sm t sz (sk t sz pa)) sz (qSemi t sz (qBy t sz v pa)) (fun _ => True) := flt_fail (by omega) (semi_inl (by_no (wd_f hge strW_all.2.2.2.2.2.2.2 h56) (wd_f hge strW_all.2.2.2.2.2.1 h24) (wd_f hge strW_all.2.2.2.2.2.2.1 h40))) (by decide) hs62
        refine g_aload_n hX dX3_readBy_65 rfl ?_
        refine g_bipush hX dX3_readBy_66 kn_b_59 ?_
        refine g_call hX dX3_readBy_68 cw_X3_90 (ct_X3_pass  (by omega) (by first | with_reducible assumption | assumption) (by omega) (by omega) (by omega)) 0 4 [0, 1] rfl rfl rfl rfl (by decide) rfl (fun ⟨_, _, _⟩ => rfl) ⟨by decide, by decide⟩ (Nat.le_of_ble_eq_true rfl) ⟨Nat.le_refl _, Nat.le_refl _⟩ (fun v u hp => ?_)
        obtain ⟨A68, F68, P68⟩ := u
        obtain ⟨rfl, hs68⟩ := hp
        show G X Q [(d0, .inr (4, [.ref d1, .int (nI sz), .int (nI A68), .int cl, .int (nI F68), .int P68, .ref e0])), (d1, .inl (D.1 101, 150, .inl (fun k => nI (t k)))), (e0, .inr (6, [.int (v 0), .ref e1, .ref e2, .ref e3, .ref e4, .int ev])), (e1, .inl (D.1 100, 16, .inl (sE v))), (e2, .inl (D.1 100, 8, .inl (sB v))), (e3, .inl (D.1 100, 5, .inl (sT v))), (e4, .inl (D.1 100, 64, .inl (sG v)))] 0 0 71 [some (.ref d0), some (.int (nI (sk t sz pa))), some (.int (nI (sm t sz (sk t sz pa) - (sk t sz pa)))), some (.int (nI 0))] []
        have hF68 : F68 < 100 := flt_F hs68 hF62 (fun e he => qWant_F he)
        have hz := flt_keep hy (by omega) hs68
        refine g_aload_n hX dX3_readBy_71 rfl ?_
        refine g_getf hX dX3_readBy_72 fk_X3_25 0 rfl rfl ?_
        refine g_ifN_ne (tgt := 87) hX dX3_readBy_75 (by decide) (by omega) (fun h75 => ?_) (fun h75 => ?_)
        · skip
          subst hQ
          exact g_vretU hX dX3_readBy_87 (A68, F68, P68, v, ev) (⟨rfl, flt_any (ok := fun _ => True) hz.1 hz.2⟩) rfl (Nat.le_refl _) (Nat.le_refl _)
        · skip
          exact absurd h75 hz.2
    · skip
      refine g_iconst hX dX3_readBy_43 kn_i_2 ?_
      refine g_istore_n (L' := [some (.ref d0), some (.int (nI (sk t sz pa))), some (.int (nI (sm t sz (sk t sz pa) - (sk t sz pa)))), some (.int (nI 2))]) hX dX3_readBy_44 (by decide) rfl ?_
      refine g_goto (tgt := 65) hX dX3_readBy_45 (by decide) ?_
      refine g_aload_n hX dX3_readBy_65 rfl ?_
      refine g_bipush hX dX3_readBy_66 kn_b_59 ?_
      refine g_call hX dX3_readBy_68 cw_X3_90 (ct_X3_pass  (by omega) (by first | with_reducible assumption | assumption) (by omega) (by omega) (by omega)) 0 4 [0, 1] rfl rfl rfl rfl (by decide) rfl (fun ⟨_, _, _⟩ => rfl) ⟨by decide, by decide⟩ (Nat.le_of_ble_eq_true rfl) ⟨Nat.le_refl _, Nat.le_refl _⟩ (fun v u hp => ?_)
      obtain ⟨A68, F68, P68⟩ := u
      obtain ⟨rfl, hs68⟩ := hp
      show G X Q [(d0, .inr (4, [.ref d1, .int (nI sz), .int (nI A68), .int cl, .int (nI F68), .int P68, .ref e0])), (d1, .inl (D.1 101, 150, .inl (fun k => nI (t k)))), (e0, .inr (6, [.int (v 0), .ref e1, .ref e2, .ref e3, .ref e4, .int ev])), (e1, .inl (D.1 100, 16, .inl (sE v))), (e2, .inl (D.1 100, 8, .inl (sB v))), (e3, .inl (D.1 100, 5, .inl (sT v))), (e4, .inl (D.1 100, 64, .inl (sG v)))] 0 0 71 [some (.ref d0), some (.int (nI (sk t sz pa))), some (.int (nI (sm t sz (sk t sz pa) - (sk t sz pa)))), some (.int (nI 2))] []
      have hF68 : F68 < 100 := flt_F hs68 (by decide) (fun e he => qWant_F he)
      refine g_aload_n hX dX3_readBy_71 rfl ?_
      refine g_getf hX dX3_readBy_72 fk_X3_25 0 rfl rfl ?_
      refine g_ifN_ne (tgt := 87) hX dX3_readBy_75 (by decide) (by omega) (fun h75 => ?_) (fun h75 => ?_)
      · skip
        subst hQ
        exact g_vretU hX dX3_readBy_87 (A68, F68, P68, v, ev) (⟨rfl, flt_any (semi_seq (flt_pass (A := sm t sz (sk t sz pa)) (a := (sm t sz (sk t sz pa), upd v 5 (nI 2))) (by omega) (by_square (wd_t hge strW_all.2.2.2.2.2.2.1 h40)) ⟨rfl, rfl⟩) hs68) h75⟩) rfl (Nat.le_refl _) (Nat.le_refl _)
      · skip
        refine g_aload_n hX dX3_readBy_78 rfl ?_
        refine g_getf hX dX3_readBy_79 fk_X3_34 0 rfl rfl ?_
        refine g_iconst hX dX3_readBy_82 kn_i_4 ?_
        refine g_iload_n hX dX3_readBy_83 rfl ?_
        refine g_callFv (ws' := [(d0, .inr (4, [.ref d1, .int (nI sz), .int (nI A68), .int cl, .int (nI F68), .int P68, .ref e0])), (d1, .inl (D.1 101, 150, .inl (fun k => nI (t k)))), (e0, .inr (6, [.int ((upd v (1 + 4) (nI 2)) 0), .ref e1, .ref e2, .ref e3, .ref e4, .int (ev + nI 1)])), (e1, .inl (D.1 100, 16, .inl (sE (upd v (1 + 4) (nI 2))))), (e2, .inl (D.1 100, 8, .inl (sB (upd v (1 + 4) (nI 2))))), (e3, .inl (D.1 100, 5, .inl (sT (upd v (1 + 4) (nI 2))))), (e4, .inl (D.1 100, 64, .inl (sG (upd v (1 + 4) (nI 2)))))]) hX dX3_readBy_84 cw_X3_123 (ct_X5_setTerm  (by omega)) 2 6 [2, 3, 4, 5, 6] rfl rfl rfl rfl (by decide) rfl rfl ⟨by decide, by decide⟩ (Nat.le_of_ble_eq_true rfl) (Nat.le_refl _) (Nat.le_refl _) rfl ?_
        subst hQ
        exact g_vretU hX dX3_readBy_87 (A68, F68, P68, (upd v (1 + 4) (nI 2)), (ev + nI 1)) (⟨rfl, (semi_seq (flt_pass (A := sm t sz (sk t sz pa)) (a := (sm t sz (sk t sz pa), upd v 5 (nI 2))) (by omega) (by_square (wd_t hge strW_all.2.2.2.2.2.2.1 h40)) ⟨rfl, rfl⟩) hs68)⟩) rfl (Nat.le_refl _) (Nat.le_refl _)
  · skip
    refine g_iconst hX dX3_readBy_27 kn_i_1 ?_
    refine g_istore_n (L' := [some (.ref d0), some (.int (nI (sk t sz pa))), some (.int (nI (sm t sz (sk t sz pa) - (sk t sz pa)))), some (.int (nI 1))]) hX dX3_readBy_28 (by decide) rfl ?_
    refine g_goto (tgt := 65) hX dX3_readBy_29 (by decide) ?_
    refine g_aload_n hX dX3_readBy_65 rfl ?_
    refine g_bipush hX dX3_readBy_66 kn_b_59 ?_
    refine g_call hX dX3_readBy_68 cw_X3_90 (ct_X3_pass  (by omega) (by first | with_reducible assumption | assumption) (by omega) (by omega) (by omega)) 0 4 [0, 1] rfl rfl rfl rfl (by decide) rfl (fun ⟨_, _, _⟩ => rfl) ⟨by decide, by decide⟩ (Nat.le_of_ble_eq_true rfl) ⟨Nat.le_refl _, Nat.le_refl _⟩ (fun v u hp => ?_)
    obtain ⟨A68, F68, P68⟩ := u
    obtain ⟨rfl, hs68⟩ := hp
    show G X Q [(d0, .inr (4, [.ref d1, .int (nI sz), .int (nI A68), .int cl, .int (nI F68), .int P68, .ref e0])), (d1, .inl (D.1 101, 150, .inl (fun k => nI (t k)))), (e0, .inr (6, [.int (v 0), .ref e1, .ref e2, .ref e3, .ref e4, .int ev])), (e1, .inl (D.1 100, 16, .inl (sE v))), (e2, .inl (D.1 100, 8, .inl (sB v))), (e3, .inl (D.1 100, 5, .inl (sT v))), (e4, .inl (D.1 100, 64, .inl (sG v)))] 0 0 71 [some (.ref d0), some (.int (nI (sk t sz pa))), some (.int (nI (sm t sz (sk t sz pa) - (sk t sz pa)))), some (.int (nI 1))] []
    have hF68 : F68 < 100 := flt_F hs68 (by decide) (fun e he => qWant_F he)
    refine g_aload_n hX dX3_readBy_71 rfl ?_
    refine g_getf hX dX3_readBy_72 fk_X3_25 0 rfl rfl ?_
    refine g_ifN_ne (tgt := 87) hX dX3_readBy_75 (by decide) (by omega) (fun h75 => ?_) (fun h75 => ?_)
    · skip
      subst hQ
      exact g_vretU hX dX3_readBy_87 (A68, F68, P68, v, ev) (⟨rfl, flt_any (semi_seq (flt_pass (A := sm t sz (sk t sz pa)) (a := (sm t sz (sk t sz pa), upd v 5 (nI 1))) (by omega) (by_most (wd_t hge strW_all.2.2.2.2.2.1 h24)) ⟨rfl, rfl⟩) hs68) h75⟩) rfl (Nat.le_refl _) (Nat.le_refl _)
    · skip
      refine g_aload_n hX dX3_readBy_78 rfl ?_
      refine g_getf hX dX3_readBy_79 fk_X3_34 0 rfl rfl ?_
      refine g_iconst hX dX3_readBy_82 kn_i_4 ?_
      refine g_iload_n hX dX3_readBy_83 rfl ?_
      refine g_callFv (ws' := [(d0, .inr (4, [.ref d1, .int (nI sz), .int (nI A68), .int cl, .int (nI F68), .int P68, .ref e0])), (d1, .inl (D.1 101, 150, .inl (fun k => nI (t k)))), (e0, .inr (6, [.int ((upd v (1 + 4) (nI 1)) 0), .ref e1, .ref e2, .ref e3, .ref e4, .int (ev + nI 1)])), (e1, .inl (D.1 100, 16, .inl (sE (upd v (1 + 4) (nI 1))))), (e2, .inl (D.1 100, 8, .inl (sB (upd v (1 + 4) (nI 1))))), (e3, .inl (D.1 100, 5, .inl (sT (upd v (1 + 4) (nI 1))))), (e4, .inl (D.1 100, 64, .inl (sG (upd v (1 + 4) (nI 1)))))]) hX dX3_readBy_84 cw_X3_123 (ct_X5_setTerm  (by omega)) 2 6 [2, 3, 4, 5, 6] rfl rfl rfl rfl (by decide) rfl rfl ⟨by decide, by decide⟩ (Nat.le_of_ble_eq_true rfl) (Nat.le_refl _) (Nat.le_refl _) rfl ?_
      subst hQ
      exact g_vretU hX dX3_readBy_87 (A68, F68, P68, (upd v (1 + 4) (nI 1)), (ev + nI 1)) (⟨rfl, (semi_seq (flt_pass (A := sm t sz (sk t sz pa)) (a := (sm t sz (sk t sz pa), upd v 5 (nI 1))) (by omega) (by_most (wd_t hge strW_all.2.2.2.2.2.1 h24)) ⟨rfl, rfl⟩) hs68)⟩) rfl (Nat.le_refl _) (Nat.le_refl _)
set_option maxRecDepth 100000 in
set_option maxHeartbeats 4000000 in
theorem ct_X3_readClause {l : Launch} {D : va_G} {d0 d1 e0 e1 e2 e3 e4 sz pa : Nat} {cl fa ev : Int32} {t : Nat → Nat} {v : Nat → Int32} (hsz : sz ≤ 150) (ht : ∀ k, t k < 256) (hpa : pa ≤ sz) : Ct (S := Nat × Nat × Int32 × (Nat → Int32) × Int32) l D yX3_readClause cX3_readClause 3 none 6 132 0 0 [.ref d0] [(d0, .inr (4, [.ref d1, .int (nI sz), .int (nI pa), .int cl, .int (nI 0), .int fa, .ref e0])), (d1, .inl (D.1 101, 150, .inl (fun k => nI (t k)))), (e0, .inr (6, [.int (v 0), .ref e1, .ref e2, .ref e3, .ref e4, .int ev])), (e1, .inl (D.1 100, 16, .inl (sE v))), (e2, .inl (D.1 100, 8, .inl (sB v))), (e3, .inl (D.1 100, 5, .inl (sT v))), (e4, .inl (D.1 100, 64, .inl (sG v)))] (fun (rv : Option Value) (u : Nat × Nat × Int32 × (Nat → Int32) × Int32) => match u with | (A, F, P, W, ev2) => rv = none ∧ (fltP 0 fa F P A sz (qClause t sz v pa) (fun a => A = a.1 ∧ W = a.2))) (fun (u : Nat × Nat × Int32 × (Nat → Int32) × Int32) => match u with | (A, F, P, W, ev2) => ([(d0, .inr (4, [.ref d1, .int (nI sz), .int (nI A), .int cl, .int (nI F), .int P, .ref e0])), (d1, .inl (D.1 101, 150, .inl (fun k => nI (t k)))), (e0, .inr (6, [.int (W 0), .ref e1, .ref e2, .ref e3, .ref e4, .int ev2])), (e1, .inl (D.1 100, 16, .inl (sE W))), (e2, .inl (D.1 100, 8, .inl (sB W))), (e3, .inl (D.1 100, 5, .inl (sT W))), (e4, .inl (D.1 100, 64, .inl (sG W)))] : va_W)) := by
  refine Ct.ofG (by decide) (Nat.le_of_ble_eq_true rfl) ?_
  intro X hX
  have hX : CX X l D RX3 "readClause" cX3_readClause 3 none 6 132 0 0 := hX
  show G X (QM X 0 0 (fun (rv : Option Value) (u : Nat × Nat × Int32 × (Nat → Int32) × Int32) => match u with | (A, F, P, W, ev2) => rv = none ∧ (fltP 0 fa F P A sz (qClause t sz v pa) (fun a => A = a.1 ∧ W = a.2))) (fun (u : Nat × Nat × Int32 × (Nat → Int32) × Int32) => match u with | (A, F, P, W, ev2) => ([(d0, .inr (4, [.ref d1, .int (nI sz), .int (nI A), .int cl, .int (nI F), .int P, .ref e0])), (d1, .inl (D.1 101, 150, .inl (fun k => nI (t k)))), (e0, .inr (6, [.int (W 0), .ref e1, .ref e2, .ref e3, .ref e4, .int ev2])), (e1, .inl (D.1 100, 16, .inl (sE W))), (e2, .inl (D.1 100, 8, .inl (sB W))), (e3, .inl (D.1 100, 5, .inl (sT W))), (e4, .inl (D.1 100, 64, .inl (sG W)))] : va_W))) [(d0, .inr (4, [.ref d1, .int (nI sz), .int (nI pa), .int cl, .int (nI 0), .int fa, .ref e0])), (d1, .inl (D.1 101, 150, .inl (fun k => nI (t k)))), (e0, .inr (6, [.int (v 0), .ref e1, .ref e2, .ref e3, .ref e4, .int ev])), (e1, .inl (D.1 100, 16, .inl (sE v))), (e2, .inl (D.1 100, 8, .inl (sB v))), (e3, .inl (D.1 100, 5, .inl (sT v))), (e4, .inl (D.1 100, 64, .inl (sG v)))] 0 0 0 [some (.ref d0), none, none] []
  generalize hQ : QM X 0 0 (fun (rv : Option Value) (u : Nat × Nat × Int32 × (Nat → Int32) × Int32) => match u with | (A, F, P, W, ev2) => rv = none ∧ (fltP 0 fa F P A sz (qClause t sz v pa) (fun a => A = a.1 ∧ W = a.2))) (fun (u : Nat × Nat × Int32 × (Nat → Int32) × Int32) => match u with | (A, F, P, W, ev2) => ([(d0, .inr (4, [.ref d1, .int (nI sz), .int (nI A), .int cl, .int (nI F), .int P, .ref e0])), (d1, .inl (D.1 101, 150, .inl (fun k => nI (t k)))), (e0, .inr (6, [.int (W 0), .ref e1, .ref e2, .ref e3, .ref e4, .int ev2])), (e1, .inl (D.1 100, 16, .inl (sE W))), (e2, .inl (D.1 100, 8, .inl (sB W))), (e3, .inl (D.1 100, 5, .inl (sT W))), (e4, .inl (D.1 100, 64, .inl (sG W)))] : va_W)) = Q
  refine g_aload_n hX dX3_readClause_0 rfl ?_
  refine g_getf hX dX3_readClause_1 fk_X3_19 0 rfl rfl ?_
  refine g_istore_n (L' := [some (.ref d0), some (.int (nI pa)), none]) hX dX3_readClause_4 (by decide) rfl ?_
  refine g_aload_n hX dX3_readClause_5 rfl ?_
  refine g_callFi (ws' := [(d0, .inr (4, [.ref d1, .int (nI sz), .int (nI (sm t sz pa)), .int cl, .int (nI 0), .int fa, .ref e0])), (d1, .inl (D.1 101, 150, .inl (fun k => nI (t k)))), (e0, .inr (6, [.int (v 0), .ref e1, .ref e2, .ref e3, .ref e4, .int ev])), (e1, .inl (D.1 100, 16, .inl (sE v))), (e2, .inl (D.1 100, 8, .inl (sB v))), (e3, .inl (D.1 100, 5, .inl (sT v))), (e4, .inl (D.1 100, 64, .inl (sG v)))]) hX dX3_readClause_6 cw_X3_48 (ct_X3_passWord  (by omega) (by first | with_reducible assumption | assumption) (by omega)) 0 4 [0, 1] rfl rfl rfl rfl (by decide) rfl rfl ⟨by decide, by decide⟩ (Nat.le_of_ble_eq_true rfl) (Nat.le_refl _) (Nat.le_refl _) rfl ?_
  have hge := sm_ge (t := t) (sz := sz) (p := pa)
  have hle2 := sm_le (t := t) hpa
  have hlr := sm_rng (t := t) (sz := sz) (p := pa)
  refine g_istore_n (L' := [some (.ref d0), some (.int (nI pa)), some (.int (nI (sm t sz pa - pa)))]) hX dX3_readClause_9 (by decide) rfl ?_
  have K10 : (qBody t sz v pa = qTerm t sz v pa (sm t sz pa)) → G X Q [(d0, .inr (4, [.ref d1, .int (nI sz), .int (nI (sm t sz pa)), .int cl, .int (nI 0), .int fa, .ref e0])), (d1, .inl (D.1 101, 150, .inl (fun k => nI (t k)))), (e0, .inr (6, [.int (v 0), .ref e1, .ref e2, .ref e3, .ref e4, .int ev])), (e1, .inl (D.1 100, 16, .inl (sE v))), (e2, .inl (D.1 100, 8, .inl (sB v))), (e3, .inl (D.1 100, 5, .inl (sT v))), (e4, .inl (D.1 100, 64, .inl (sG v)))] 0 0 70 [some (.ref d0), some (.int (nI pa)), some (.int (nI (sm t sz pa - pa)))] [] := by
    intro hqt
    refine g_aload_n hX dX3_readClause_70 rfl ?_
    refine g_iload_n hX dX3_readClause_71 rfl ?_
    refine g_iload_n hX dX3_readClause_72 rfl ?_
    refine g_ldcS (i := 0) hX (by decide) rfl rfl dX3_readClause_73 ?_
    refine g_callRi hX dX3_readClause_75 cw_X3_65 (ct_X3_isWord  (by omega) (by first | with_reducible assumption | assumption) (by omega) (by omega)) 0 4 [0, 1] rfl rfl rfl rfl (by decide) rfl ⟨by decide, by decide⟩ (Nat.le_of_ble_eq_true rfl) (Nat.le_refl _) (Nat.le_refl _) ?_
    refine g_ifb_eq (tgt := 89) hX dX3_readClause_78 (by decide) (fun h78 => ?_) (fun h78 => ?_)
    · skip
      refine g_aload_n hX dX3_readClause_89 rfl ?_
      refine g_iload_n hX dX3_readClause_90 rfl ?_
      refine g_iload_n hX dX3_readClause_91 rfl ?_
      refine g_ldcS (i := 1) hX (by decide) rfl rfl dX3_readClause_92 ?_
      refine g_callRi hX dX3_readClause_94 cw_X3_65 (ct_X3_isWord  (by omega) (by first | with_reducible assumption | assumption) (by omega) (by omega)) 0 4 [0, 1] rfl rfl rfl rfl (by decide) rfl ⟨by decide, by decide⟩ (Nat.le_of_ble_eq_true rfl) (Nat.le_refl _) (Nat.le_refl _) ?_
      refine g_ifb_eq (tgt := 108) hX dX3_readClause_97 (by decide) (fun h97 => ?_) (fun h97 => ?_)
      · skip
        refine g_aload_n hX dX3_readClause_108 rfl ?_
        refine g_iload_n hX dX3_readClause_109 rfl ?_
        refine g_iload_n hX dX3_readClause_110 rfl ?_
        refine g_ldcS (i := 2) hX (by decide) rfl rfl dX3_readClause_111 ?_
        refine g_callRi hX dX3_readClause_113 cw_X3_65 (ct_X3_isWord  (by omega) (by first | with_reducible assumption | assumption) (by omega) (by omega)) 0 4 [0, 1] rfl rfl rfl rfl (by decide) rfl ⟨by decide, by decide⟩ (Nat.le_of_ble_eq_true rfl) (Nat.le_refl _) (Nat.le_refl _) ?_
        refine g_ifb_eq (tgt := 127) hX dX3_readClause_116 (by decide) (fun h116 => ?_) (fun h116 => ?_)
        · skip
          refine g_aload_n hX dX3_readClause_127 rfl ?_
          refine g_iload_n hX dX3_readClause_128 rfl ?_
          refine g_iload_n hX dX3_readClause_129 rfl ?_
          refine g_ldcS (i := 3) hX (by decide) rfl rfl dX3_readClause_130 ?_
          refine g_callRi hX dX3_readClause_132 cw_X3_65 (ct_X3_isWord  (by omega) (by first | with_reducible assumption | assumption) (by omega) (by omega)) 0 4 [0, 1] rfl rfl rfl rfl (by decide) rfl ⟨by decide, by decide⟩ (Nat.le_of_ble_eq_true rfl) (Nat.le_refl _) (Nat.le_refl _) ?_
          refine g_ifb_eq (tgt := 146) hX dX3_readClause_135 (by decide) (fun h135 => ?_) (fun h135 => ?_)
          · skip
            refine g_aload_n hX dX3_readClause_146 rfl ?_
            refine g_iload_n hX dX3_readClause_147 rfl ?_
            refine g_iload_n hX dX3_readClause_148 rfl ?_
            refine g_ldcS (i := 4) hX (by decide) rfl rfl dX3_readClause_149 ?_
            refine g_callRi hX dX3_readClause_151 cw_X3_65 (ct_X3_isWord  (by omega) (by first | with_reducible assumption | assumption) (by omega) (by omega)) 0 4 [0, 1] rfl rfl rfl rfl (by decide) rfl ⟨by decide, by decide⟩ (Nat.le_of_ble_eq_true rfl) (Nat.le_refl _) (Nat.le_refl _) ?_
            refine g_ifb_eq (tgt := 164) hX dX3_readClause_154 (by decide) (fun h154 => ?_) (fun h154 => ?_)
            · skip
              refine g_aload_n hX dX3_readClause_164 rfl ?_
              refine g_iconst hX dX3_readClause_165 kn_i_1 ?_
              refine g_iload_n hX dX3_readClause_166 rfl ?_
              refine g_call hX dX3_readClause_167 cw_X3_83 (ct_X3_fail  (by omega)) 0 4 [0] rfl rfl rfl rfl (by decide) rfl (fun ⟨_, _⟩ => rfl) ⟨by decide, by decide⟩ (Nat.le_of_ble_eq_true rfl) ⟨Nat.le_refl _, Nat.le_refl _⟩ (fun v u hp => ?_)
              obtain ⟨F167, P167⟩ := u
              obtain ⟨rfl, hs167⟩ := hp
              show G X Q [(d0, .inr (4, [.ref d1, .int (nI sz), .int (nI (sm t sz pa)), .int cl, .int (nI F167), .int P167, .ref e0])), (d1, .inl (D.1 101, 150, .inl (fun k => nI (t k)))), (e0, .inr (6, [.int (v 0), .ref e1, .ref e2, .ref e3, .ref e4, .int ev])), (e1, .inl (D.1 100, 16, .inl (sE v))), (e2, .inl (D.1 100, 8, .inl (sB v))), (e3, .inl (D.1 100, 5, .inl (sT v))), (e4, .inl (D.1 100, 64, .inl (sG v)))] 0 0 170 [some (.ref d0), some (.int (nI pa)), some (.int (nI (sm t sz pa - pa)))] []
              subst hQ
              exact g_vretU hX dX3_readClause_170 ((sm t sz pa), F167, P167, v, ev) (⟨rfl, flt_fail hle2 (by rw [qClause_semi, hqt, tm_no (wd_f hge strW_all.1 h78) (wd_f hge strW_all.2.1 h97) (wd_f hge strW_all.2.2.1 h116) (wd_f hge strW_all.2.2.2.1 h135) (wd_f hge strW_all.2.2.2.2.1 h154)]; rfl) (by decide) hs167⟩) rfl (Nat.le_refl _) (Nat.le_refl _)
            · skip
              refine g_aload_n hX dX3_readClause_157 rfl ?_
              refine g_call hX dX3_readClause_158 cw_X3_80 (ct_X3_readBy  (by omega) (by first | with_reducible assumption | assumption) (by omega)) 0 4 [0, 1, 2, 3, 4, 5, 6] rfl rfl rfl rfl (by decide) rfl (fun ⟨_, _, _, _, _⟩ => rfl) ⟨by decide, by decide⟩ (Nat.le_of_ble_eq_true rfl) ⟨Nat.le_refl _, Nat.le_refl _⟩ (fun v u hp => ?_)
              obtain ⟨A158, F158, P158, W158, ev2158⟩ := u
              obtain ⟨rfl, hs158⟩ := hp
              show G X Q [(d0, .inr (4, [.ref d1, .int (nI sz), .int (nI A158), .int cl, .int (nI F158), .int P158, .ref e0])), (d1, .inl (D.1 101, 150, .inl (fun k => nI (t k)))), (e0, .inr (6, [.int (W158 0), .ref e1, .ref e2, .ref e3, .ref e4, .int ev2158])), (e1, .inl (D.1 100, 16, .inl (sE W158))), (e2, .inl (D.1 100, 8, .inl (sB W158))), (e3, .inl (D.1 100, 5, .inl (sT W158))), (e4, .inl (D.1 100, 64, .inl (sG W158)))] 0 0 161 [some (.ref d0), some (.int (nI pa)), some (.int (nI (sm t sz pa - pa)))] []
              refine g_goto (tgt := 170) hX dX3_readClause_161 (by decide) ?_
              subst hQ
              exact g_vretU hX dX3_readClause_170 (A158, F158, P158, W158, ev2158) (⟨rfl, by rw [qClause_semi, hqt, tm_by (wd_t hge strW_all.2.2.2.2.1 h154)]; exact hs158⟩) rfl (Nat.le_refl _) (Nat.le_refl _)
          · skip
            refine g_aload_n hX dX3_readClause_138 rfl ?_
            refine g_iconst hX dX3_readClause_139 kn_i_3 ?_
            refine g_call hX dX3_readClause_140 cw_X3_69 (ct_X3_readTerm_3  (by omega) (by first | with_reducible assumption | assumption) (by omega)) 0 4 [0, 1, 2, 3, 4, 5, 6] rfl rfl rfl rfl (by decide) rfl (fun ⟨_, _, _, _, _⟩ => rfl) ⟨by decide, by decide⟩ (Nat.le_of_ble_eq_true rfl) ⟨Nat.le_refl _, Nat.le_refl _⟩ (fun v u hp => ?_)
            obtain ⟨A140, F140, P140, W140, ev2140⟩ := u
            obtain ⟨rfl, hs140⟩ := hp
            show G X Q [(d0, .inr (4, [.ref d1, .int (nI sz), .int (nI A140), .int cl, .int (nI F140), .int P140, .ref e0])), (d1, .inl (D.1 101, 150, .inl (fun k => nI (t k)))), (e0, .inr (6, [.int (W140 0), .ref e1, .ref e2, .ref e3, .ref e4, .int ev2140])), (e1, .inl (D.1 100, 16, .inl (sE W140))), (e2, .inl (D.1 100, 8, .inl (sB W140))), (e3, .inl (D.1 100, 5, .inl (sT W140))), (e4, .inl (D.1 100, 64, .inl (sG W140)))] 0 0 143 [some (.ref d0), some (.int (nI pa)), some (.int (nI (sm t sz pa - pa)))] []
            refine g_goto (tgt := 170) hX dX3_readClause_143 (by decide) ?_
            subst hQ
            exact g_vretU hX dX3_readClause_170 (A140, F140, P140, W140, ev2140) (⟨rfl, by rw [qClause_semi, hqt, tm_aim (wd_t hge strW_all.2.2.2.1 h135)]; exact hs140⟩) rfl (Nat.le_refl _) (Nat.le_refl _)
        · skip
          refine g_aload_n hX dX3_readClause_119 rfl ?_
          refine g_iconst hX dX3_readClause_120 kn_i_2 ?_
          refine g_call hX dX3_readClause_121 cw_X3_69 (ct_X3_readTerm_2  (by omega) (by first | with_reducible assumption | assumption) (by omega)) 0 4 [0, 1, 2, 3, 4, 5, 6] rfl rfl rfl rfl (by decide) rfl (fun ⟨_, _, _, _, _⟩ => rfl) ⟨by decide, by decide⟩ (Nat.le_of_ble_eq_true rfl) ⟨Nat.le_refl _, Nat.le_refl _⟩ (fun v u hp => ?_)
          obtain ⟨A121, F121, P121, W121, ev2121⟩ := u
          obtain ⟨rfl, hs121⟩ := hp
          show G X Q [(d0, .inr (4, [.ref d1, .int (nI sz), .int (nI A121), .int cl, .int (nI F121), .int P121, .ref e0])), (d1, .inl (D.1 101, 150, .inl (fun k => nI (t k)))), (e0, .inr (6, [.int (W121 0), .ref e1, .ref e2, .ref e3, .ref e4, .int ev2121])), (e1, .inl (D.1 100, 16, .inl (sE W121))), (e2, .inl (D.1 100, 8, .inl (sB W121))), (e3, .inl (D.1 100, 5, .inl (sT W121))), (e4, .inl (D.1 100, 64, .inl (sG W121)))] 0 0 124 [some (.ref d0), some (.int (nI pa)), some (.int (nI (sm t sz pa - pa)))] []
          refine g_goto (tgt := 170) hX dX3_readClause_124 (by decide) ?_
          subst hQ
          exact g_vretU hX dX3_readClause_170 (A121, F121, P121, W121, ev2121) (⟨rfl, by rw [qClause_semi, hqt, tm_cap (wd_t hge strW_all.2.2.1 h116)]; exact hs121⟩) rfl (Nat.le_refl _) (Nat.le_refl _)
      · skip
        refine g_aload_n hX dX3_readClause_100 rfl ?_
        refine g_iconst hX dX3_readClause_101 kn_i_1 ?_
        refine g_call hX dX3_readClause_102 cw_X3_69 (ct_X3_readTerm_1  (by omega) (by first | with_reducible assumption | assumption) (by omega)) 0 4 [0, 1, 2, 3, 4, 5, 6] rfl rfl rfl rfl (by decide) rfl (fun ⟨_, _, _, _, _⟩ => rfl) ⟨by decide, by decide⟩ (Nat.le_of_ble_eq_true rfl) ⟨Nat.le_refl _, Nat.le_refl _⟩ (fun v u hp => ?_)
        obtain ⟨A102, F102, P102, W102, ev2102⟩ := u
        obtain ⟨rfl, hs102⟩ := hp
        show G X Q [(d0, .inr (4, [.ref d1, .int (nI sz), .int (nI A102), .int cl, .int (nI F102), .int P102, .ref e0])), (d1, .inl (D.1 101, 150, .inl (fun k => nI (t k)))), (e0, .inr (6, [.int (W102 0), .ref e1, .ref e2, .ref e3, .ref e4, .int ev2102])), (e1, .inl (D.1 100, 16, .inl (sE W102))), (e2, .inl (D.1 100, 8, .inl (sB W102))), (e3, .inl (D.1 100, 5, .inl (sT W102))), (e4, .inl (D.1 100, 64, .inl (sG W102)))] 0 0 105 [some (.ref d0), some (.int (nI pa)), some (.int (nI (sm t sz pa - pa)))] []
        refine g_goto (tgt := 170) hX dX3_readClause_105 (by decide) ?_
        subst hQ
        exact g_vretU hX dX3_readClause_170 (A102, F102, P102, W102, ev2102) (⟨rfl, by rw [qClause_semi, hqt, tm_odd (wd_t hge strW_all.2.1 h97)]; exact hs102⟩) rfl (Nat.le_refl _) (Nat.le_refl _)
    · skip
      refine g_aload_n hX dX3_readClause_81 rfl ?_
      refine g_iconst hX dX3_readClause_82 kn_i_0 ?_
      refine g_call hX dX3_readClause_83 cw_X3_69 (ct_X3_readTerm_0  (by omega) (by first | with_reducible assumption | assumption) (by omega)) 0 4 [0, 1, 2, 3, 4, 5, 6] rfl rfl rfl rfl (by decide) rfl (fun ⟨_, _, _, _, _⟩ => rfl) ⟨by decide, by decide⟩ (Nat.le_of_ble_eq_true rfl) ⟨Nat.le_refl _, Nat.le_refl _⟩ (fun v u hp => ?_)
      obtain ⟨A83, F83, P83, W83, ev283⟩ := u
      obtain ⟨rfl, hs83⟩ := hp
      show G X Q [(d0, .inr (4, [.ref d1, .int (nI sz), .int (nI A83), .int cl, .int (nI F83), .int P83, .ref e0])), (d1, .inl (D.1 101, 150, .inl (fun k => nI (t k)))), (e0, .inr (6, [.int (W83 0), .ref e1, .ref e2, .ref e3, .ref e4, .int ev283])), (e1, .inl (D.1 100, 16, .inl (sE W83))), (e2, .inl (D.1 100, 8, .inl (sB W83))), (e3, .inl (D.1 100, 5, .inl (sT W83))), (e4, .inl (D.1 100, 64, .inl (sG W83)))] 0 0 86 [some (.ref d0), some (.int (nI pa)), some (.int (nI (sm t sz pa - pa)))] []
      refine g_goto (tgt := 170) hX dX3_readClause_86 (by decide) ?_
      subst hQ
      exact g_vretU hX dX3_readClause_170 (A83, F83, P83, W83, ev283) (⟨rfl, by rw [qClause_semi, hqt, tm_like (wd_t hge strW_all.1 h78)]; exact hs83⟩) rfl (Nat.le_refl _) (Nat.le_refl _)
  refine g_iload_n hX dX3_readClause_10 rfl ?_
  refine g_iconst hX dX3_readClause_11 kn_i_1 ?_
  refine g_icmpN_ne (tgt := 39) hX dX3_readClause_12 (by decide) (by omega) (by omega) (fun h12 => ?_) (fun h12 => ?_)
  · skip
    refine g_iload_n hX dX3_readClause_39 rfl ?_
    refine g_iconst hX dX3_readClause_40 kn_i_2 ?_
    refine g_icmpN_ne (tgt := 70) hX dX3_readClause_41 (by decide) (by omega) (by omega) (fun h41 => ?_) (fun h41 => ?_)
    · skip
      exact g_to (K10 (qBody_t ⟨fun q => by omega, fun q => by omega⟩)) ⟨rfl, rfl, rfl, trivial⟩
    · skip
      refine g_aload_n hX dX3_readClause_44 rfl ?_
      refine g_iload_n hX dX3_readClause_45 rfl ?_
      refine g_callRi hX dX3_readClause_46 cw_X3_52 (ct_X3_isLetter  (by omega) (by first | with_reducible assumption | assumption) (by omega)) 0 4 [0, 1] rfl rfl rfl rfl (by decide) rfl ⟨by decide, by decide⟩ (Nat.le_of_ble_eq_true rfl) (Nat.le_refl _) (Nat.le_refl _) ?_
      refine g_ifb_eq (tgt := 70) hX dX3_readClause_49 (by decide) (fun h49 => ?_) (fun h49 => ?_)
      · skip
        exact g_to (K10 (qBody_t ⟨fun q => by omega, fun q => letB_0 h49 (by omega) (hlr pa (by omega) (by omega)).1 q.2.1⟩)) ⟨rfl, rfl, rfl, trivial⟩
      · skip
        refine g_aload_n hX dX3_readClause_52 rfl ?_
        refine g_iload_n hX dX3_readClause_53 rfl ?_
        refine g_iconst hX dX3_readClause_54 kn_i_1 ?_
        refine g_iaddN hX dX3_readClause_55 ?_
        refine g_callRi hX dX3_readClause_56 cw_X3_52 (ct_X3_isLetter  (by omega) (by first | with_reducible assumption | assumption) (by omega)) 0 4 [0, 1] rfl rfl rfl rfl (by decide) rfl ⟨by decide, by decide⟩ (Nat.le_of_ble_eq_true rfl) (Nat.le_refl _) (Nat.le_refl _) ?_
        refine g_ifb_eq (tgt := 70) hX dX3_readClause_59 (by decide) (fun h59 => ?_) (fun h59 => ?_)
        · skip
          exact g_to (K10 (qBody_t ⟨fun q => by omega, fun q => letB_0 h59 (by omega) (hlr (pa + 1) (by omega) (by omega)).1 q.2.2⟩)) ⟨rfl, rfl, rfl, trivial⟩
        · skip
          have hlb1 := letB_1 h49
          have hlb2 := letB_1 h59
          refine g_aload_n hX dX3_readClause_62 rfl ?_
          refine g_iload_n hX dX3_readClause_63 rfl ?_
          refine g_call hX dX3_readClause_64 cw_X3_60 (ct_X3_readPair  (by omega) (by first | with_reducible assumption | assumption) (by omega) (by omega) hlb1.2 hlb2.2) 0 4 [0, 1, 2, 3, 4, 5, 6] rfl rfl rfl rfl (by decide) rfl (fun ⟨_, _, _, _, _⟩ => rfl) ⟨by decide, by decide⟩ (Nat.le_of_ble_eq_true rfl) ⟨Nat.le_refl _, Nat.le_refl _⟩ (fun v u hp => ?_)
          obtain ⟨A64, F64, P64, W64, ev264⟩ := u
          obtain ⟨rfl, hs64⟩ := hp
          show G X Q [(d0, .inr (4, [.ref d1, .int (nI sz), .int (nI A64), .int cl, .int (nI F64), .int P64, .ref e0])), (d1, .inl (D.1 101, 150, .inl (fun k => nI (t k)))), (e0, .inr (6, [.int (W64 0), .ref e1, .ref e2, .ref e3, .ref e4, .int ev264])), (e1, .inl (D.1 100, 16, .inl (sE W64))), (e2, .inl (D.1 100, 8, .inl (sB W64))), (e3, .inl (D.1 100, 5, .inl (sT W64))), (e4, .inl (D.1 100, 64, .inl (sG W64)))] 0 0 67 [some (.ref d0), some (.int (nI pa)), some (.int (nI (sm t sz pa - pa)))] []
          refine g_goto (tgt := 170) hX dX3_readClause_67 (by decide) ?_
          subst hQ
          exact g_vretU hX dX3_readClause_170 (A64, F64, P64, W64, ev264) (⟨rfl, by rw [qClause_semi, qBody_p (by omega) (letB_1 h49).2.2 (letB_1 h59).2.2, ← show sm t sz pa = pa + 2 by omega]; exact hs64⟩) rfl (Nat.le_refl _) (Nat.le_refl _)
  · skip
    refine g_aload_n hX dX3_readClause_15 rfl ?_
    refine g_iload_n hX dX3_readClause_16 rfl ?_
    refine g_callRi hX dX3_readClause_17 cw_X3_52 (ct_X3_isLetter  (by omega) (by first | with_reducible assumption | assumption) (by omega)) 0 4 [0, 1] rfl rfl rfl rfl (by decide) rfl ⟨by decide, by decide⟩ (Nat.le_of_ble_eq_true rfl) (Nat.le_refl _) (Nat.le_refl _) ?_
    refine g_ifb_eq (tgt := 39) hX dX3_readClause_20 (by decide) (fun h20 => ?_) (fun h20 => ?_)
    · skip
      refine g_iload_n hX dX3_readClause_39 rfl ?_
      refine g_iconst hX dX3_readClause_40 kn_i_2 ?_
      refine g_icmpN_ne (tgt := 70) hX dX3_readClause_41 (by decide) (by omega) (by omega) (fun h41 => ?_) (fun h41 => ?_)
      · skip
        exact g_to (K10 (qBody_t ⟨fun q => letB_0 h20 (by omega) (hlr pa (by omega) (by omega)).1 q.2, fun q => by omega⟩)) ⟨rfl, rfl, rfl, trivial⟩
      · skip
        refine g_aload_n hX dX3_readClause_44 rfl ?_
        refine g_iload_n hX dX3_readClause_45 rfl ?_
        refine g_callRi hX dX3_readClause_46 cw_X3_52 (ct_X3_isLetter  (by omega) (by first | with_reducible assumption | assumption) (by omega)) 0 4 [0, 1] rfl rfl rfl rfl (by decide) rfl ⟨by decide, by decide⟩ (Nat.le_of_ble_eq_true rfl) (Nat.le_refl _) (Nat.le_refl _) ?_
        refine g_ifb_eq (tgt := 70) hX dX3_readClause_49 (by decide) (fun h49 => ?_) (fun h49 => ?_)
        · skip
          exact g_to (K10 (qBody_t ⟨fun q => letB_0 h20 (by omega) (hlr pa (by omega) (by omega)).1 q.2, fun q => letB_0 h49 (by omega) (hlr pa (by omega) (by omega)).1 q.2.1⟩)) ⟨rfl, rfl, rfl, trivial⟩
        · skip
          refine g_aload_n hX dX3_readClause_52 rfl ?_
          refine g_iload_n hX dX3_readClause_53 rfl ?_
          refine g_iconst hX dX3_readClause_54 kn_i_1 ?_
          refine g_iaddN hX dX3_readClause_55 ?_
          refine g_callRi hX dX3_readClause_56 cw_X3_52 (ct_X3_isLetter  (by omega) (by first | with_reducible assumption | assumption) (by omega)) 0 4 [0, 1] rfl rfl rfl rfl (by decide) rfl ⟨by decide, by decide⟩ (Nat.le_of_ble_eq_true rfl) (Nat.le_refl _) (Nat.le_refl _) ?_
          refine g_ifb_eq (tgt := 70) hX dX3_readClause_59 (by decide) (fun h59 => ?_) (fun h59 => ?_)
          · skip
            exact g_to (K10 (qBody_t ⟨fun q => letB_0 h20 (by omega) (hlr pa (by omega) (by omega)).1 q.2, fun q => letB_0 h59 (by omega) (hlr (pa + 1) (by omega) (by omega)).1 q.2.2⟩)) ⟨rfl, rfl, rfl, trivial⟩
          · skip
            have hlb1 := letB_1 h49
            have hlb2 := letB_1 h59
            refine g_aload_n hX dX3_readClause_62 rfl ?_
            refine g_iload_n hX dX3_readClause_63 rfl ?_
            refine g_call hX dX3_readClause_64 cw_X3_60 (ct_X3_readPair  (by omega) (by first | with_reducible assumption | assumption) (by omega) (by omega) hlb1.2 hlb2.2) 0 4 [0, 1, 2, 3, 4, 5, 6] rfl rfl rfl rfl (by decide) rfl (fun ⟨_, _, _, _, _⟩ => rfl) ⟨by decide, by decide⟩ (Nat.le_of_ble_eq_true rfl) ⟨Nat.le_refl _, Nat.le_refl _⟩ (fun v u hp => ?_)
            obtain ⟨A64, F64, P64, W64, ev264⟩ := u
            obtain ⟨rfl, hs64⟩ := hp
            show G X Q [(d0, .inr (4, [.ref d1, .int (nI sz), .int (nI A64), .int cl, .int (nI F64), .int P64, .ref e0])), (d1, .inl (D.1 101, 150, .inl (fun k => nI (t k)))), (e0, .inr (6, [.int (W64 0), .ref e1, .ref e2, .ref e3, .ref e4, .int ev264])), (e1, .inl (D.1 100, 16, .inl (sE W64))), (e2, .inl (D.1 100, 8, .inl (sB W64))), (e3, .inl (D.1 100, 5, .inl (sT W64))), (e4, .inl (D.1 100, 64, .inl (sG W64)))] 0 0 67 [some (.ref d0), some (.int (nI pa)), some (.int (nI (sm t sz pa - pa)))] []
            refine g_goto (tgt := 170) hX dX3_readClause_67 (by decide) ?_
            subst hQ
            exact g_vretU hX dX3_readClause_170 (A64, F64, P64, W64, ev264) (⟨rfl, by rw [qClause_semi, qBody_p (by omega) (letB_1 h49).2.2 (letB_1 h59).2.2, ← show sm t sz pa = pa + 2 by omega]; exact hs64⟩) rfl (Nat.le_refl _) (Nat.le_refl _)
    · skip
      have hlb := letB_1 h20
      refine g_aload_n hX dX3_readClause_23 rfl ?_
      refine g_aload_n hX dX3_readClause_24 rfl ?_
      refine g_getf hX dX3_readClause_25 fk_X3_9 0 rfl rfl ?_
      refine g_iload_n hX dX3_readClause_28 rfl ?_
      refine g_cald hX dX3_readClause_29 1 rfl (by decide) (by omega) ?_
      refine g_top (v' := nI (t pa)) rfl ?_
      have hct29 := ht pa
      refine g_bipush hX dX3_readClause_30 kn_b_97 ?_
      refine g_isubN hX dX3_readClause_32 (by omega) ?_
      refine g_call hX dX3_readClause_33 cw_X3_56 (ct_X3_readLetter  (by omega) (by first | with_reducible assumption | assumption) (by omega) (by omega)) 0 4 [0, 1, 2, 3, 4, 5, 6] rfl rfl rfl rfl (by decide) rfl (fun ⟨_, _, _, _, _⟩ => rfl) ⟨by decide, by decide⟩ (Nat.le_of_ble_eq_true rfl) ⟨Nat.le_refl _, Nat.le_refl _⟩ (fun v u hp => ?_)
      obtain ⟨A33, F33, P33, W33, ev233⟩ := u
      obtain ⟨rfl, hs33⟩ := hp
      show G X Q [(d0, .inr (4, [.ref d1, .int (nI sz), .int (nI A33), .int cl, .int (nI F33), .int P33, .ref e0])), (d1, .inl (D.1 101, 150, .inl (fun k => nI (t k)))), (e0, .inr (6, [.int (W33 0), .ref e1, .ref e2, .ref e3, .ref e4, .int ev233])), (e1, .inl (D.1 100, 16, .inl (sE W33))), (e2, .inl (D.1 100, 8, .inl (sB W33))), (e3, .inl (D.1 100, 5, .inl (sT W33))), (e4, .inl (D.1 100, 64, .inl (sG W33)))] 0 0 36 [some (.ref d0), some (.int (nI pa)), some (.int (nI (sm t sz pa - pa)))] []
      refine g_goto (tgt := 170) hX dX3_readClause_36 (by decide) ?_
      subst hQ
      exact g_vretU hX dX3_readClause_170 (A33, F33, P33, W33, ev233) (⟨rfl, by rw [qClause_semi, qBody_l (by omega) (letB_1 h20).2.2]; exact hs33⟩) rfl (Nat.le_refl _) (Nat.le_refl _)
