theorem mnP_le {t : Nat → Nat} {sz a : Nat} (h : a ≤ sz) : mnP t sz a ≤ sz := by
  have h1 := sk_le (t := t) h
  unfold mnP
  split
  · rename_i q; have := (hereO_some q).1; omega
  · exact h1
set_option maxRecDepth 100000 in
set_option maxHeartbeats 4000000 in
theorem ct_X3_readLetter {l : Launch} {D : va_G} {d0 d1 e0 e1 e2 e3 e4 sz pa : Nat} {cl fa ev : Int32} {t : Nat → Nat} {v : Nat → Int32} {c : Nat} (hsz : sz ≤ 150) (ht : ∀ k, t k < 256) (hpa : pa ≤ sz) (hc : c < 8) : Ct (S := Nat × Nat × Int32 × (Nat → Int32) × Int32) l D yX3_readLetter cX3_readLetter 5 none 2 44 0 0 [.ref d0, .int (nI c)] [(d0, .inr (4, [.ref d1, .int (nI sz), .int (nI pa), .int cl, .int (nI 0), .int fa, .ref e0])), (d1, .inl (D.1 101, 150, .inl (fun k => nI (t k)))), (e0, .inr (6, [.int (v 0), .ref e1, .ref e2, .ref e3, .ref e4, .int ev])), (e1, .inl (D.1 100, 16, .inl (sE v))), (e2, .inl (D.1 100, 8, .inl (sB v))), (e3, .inl (D.1 100, 5, .inl (sT v))), (e4, .inl (D.1 100, 64, .inl (sG v)))] (fun (rv : Option Value) (u : Nat × Nat × Int32 × (Nat → Int32) × Int32) => match u with | (A, F, P, W, ev2) => rv = none ∧ (fltP 0 fa F P A sz (qSemi t sz (qLetter t sz v c pa)) (fun a => A = a.1 ∧ W = a.2))) (fun (u : Nat × Nat × Int32 × (Nat → Int32) × Int32) => match u with | (A, F, P, W, ev2) => ([(d0, .inr (4, [.ref d1, .int (nI sz), .int (nI A), .int cl, .int (nI F), .int P, .ref e0])), (d1, .inl (D.1 101, 150, .inl (fun k => nI (t k)))), (e0, .inr (6, [.int (W 0), .ref e1, .ref e2, .ref e3, .ref e4, .int ev2])), (e1, .inl (D.1 100, 16, .inl (sE W))), (e2, .inl (D.1 100, 8, .inl (sB W))), (e3, .inl (D.1 100, 5, .inl (sT W))), (e4, .inl (D.1 100, 64, .inl (sG W)))] : va_W)) := by
  refine Ct.ofG (by decide) (Nat.le_of_ble_eq_true rfl) ?_
  intro X hX
  have hX : CX X l D RX3 "readLetter" cX3_readLetter 5 none 2 44 0 0 := hX
  show G X (QM X 0 0 (fun (rv : Option Value) (u : Nat × Nat × Int32 × (Nat → Int32) × Int32) => match u with | (A, F, P, W, ev2) => rv = none ∧ (fltP 0 fa F P A sz (qSemi t sz (qLetter t sz v c pa)) (fun a => A = a.1 ∧ W = a.2))) (fun (u : Nat × Nat × Int32 × (Nat → Int32) × Int32) => match u with | (A, F, P, W, ev2) => ([(d0, .inr (4, [.ref d1, .int (nI sz), .int (nI A), .int cl, .int (nI F), .int P, .ref e0])), (d1, .inl (D.1 101, 150, .inl (fun k => nI (t k)))), (e0, .inr (6, [.int (W 0), .ref e1, .ref e2, .ref e3, .ref e4, .int ev2])), (e1, .inl (D.1 100, 16, .inl (sE W))), (e2, .inl (D.1 100, 8, .inl (sB W))), (e3, .inl (D.1 100, 5, .inl (sT W))), (e4, .inl (D.1 100, 64, .inl (sG W)))] : va_W))) [(d0, .inr (4, [.ref d1, .int (nI sz), .int (nI pa), .int cl, .int (nI 0), .int fa, .ref e0])), (d1, .inl (D.1 101, 150, .inl (fun k => nI (t k)))), (e0, .inr (6, [.int (v 0), .ref e1, .ref e2, .ref e3, .ref e4, .int ev])), (e1, .inl (D.1 100, 16, .inl (sE v))), (e2, .inl (D.1 100, 8, .inl (sB v))), (e3, .inl (D.1 100, 5, .inl (sT v))), (e4, .inl (D.1 100, 64, .inl (sG v)))] 0 0 0 [some (.ref d0), some (.int (nI c)), none, none, none] []
  generalize hQ : QM X 0 0 (fun (rv : Option Value) (u : Nat × Nat × Int32 × (Nat → Int32) × Int32) => match u with | (A, F, P, W, ev2) => rv = none ∧ (fltP 0 fa F P A sz (qSemi t sz (qLetter t sz v c pa)) (fun a => A = a.1 ∧ W = a.2))) (fun (u : Nat × Nat × Int32 × (Nat → Int32) × Int32) => match u with | (A, F, P, W, ev2) => ([(d0, .inr (4, [.ref d1, .int (nI sz), .int (nI A), .int cl, .int (nI F), .int P, .ref e0])), (d1, .inl (D.1 101, 150, .inl (fun k => nI (t k)))), (e0, .inr (6, [.int (W 0), .ref e1, .ref e2, .ref e3, .ref e4, .int ev2])), (e1, .inl (D.1 100, 16, .inl (sE W))), (e2, .inl (D.1 100, 8, .inl (sB W))), (e3, .inl (D.1 100, 5, .inl (sT W))), (e4, .inl (D.1 100, 64, .inl (sG W)))] : va_W)) = Q
  refine g_aload_n hX dX3_readLetter_0 rfl ?_
  refine g_call hX dX3_readLetter_1 cw_X3_87 (ct_X3_readEdge  (by omega) (by first | with_reducible assumption | assumption) (by omega) (by omega)) 0 4 [0, 1] rfl rfl rfl rfl (by decide) rfl (fun ⟨_, _, _, _⟩ => rfl) ⟨by decide, by decide⟩ (Nat.le_of_ble_eq_true rfl) ⟨Nat.le_refl _, Nat.le_refl _⟩ (fun v u hp => ?_)
  obtain ⟨V1, A1, F1, P1⟩ := u
  obtain ⟨rfl, hs1, hv1⟩ := hp
  show G X Q [(d0, .inr (4, [.ref d1, .int (nI sz), .int (nI A1), .int cl, .int (nI F1), .int P1, .ref e0])), (d1, .inl (D.1 101, 150, .inl (fun k => nI (t k)))), (e0, .inr (6, [.int (v 0), .ref e1, .ref e2, .ref e3, .ref e4, .int ev])), (e1, .inl (D.1 100, 16, .inl (sE v))), (e2, .inl (D.1 100, 8, .inl (sB v))), (e3, .inl (D.1 100, 5, .inl (sT v))), (e4, .inl (D.1 100, 64, .inl (sG v)))] 0 0 4 [some (.ref d0), some (.int (nI c)), none, none, none] [.int (nI V1)]
  have hF1 : F1 < 100 := flt_F hs1 (by decide) (fun e he => qEdge_F he)
  have hA1 := hs1.1
  refine g_istore_n (L' := [some (.ref d0), some (.int (nI c)), some (.int (nI V1)), none, none]) hX dX3_readLetter_4 (by decide) rfl ?_
  refine g_aload_n hX dX3_readLetter_5 rfl ?_
  refine g_bipush hX dX3_readLetter_6 kn_b_47 ?_
  refine g_call hX dX3_readLetter_8 cw_X3_90 (ct_X3_pass  (by omega) (by first | with_reducible assumption | assumption) (by omega) (by omega) (by omega)) 0 4 [0, 1] rfl rfl rfl rfl (by decide) rfl (fun ⟨_, _, _⟩ => rfl) ⟨by decide, by decide⟩ (Nat.le_of_ble_eq_true rfl) ⟨Nat.le_refl _, Nat.le_refl _⟩ (fun v u hp => ?_)
  obtain ⟨A8, F8, P8⟩ := u
  obtain ⟨rfl, hs8⟩ := hp
  show G X Q [(d0, .inr (4, [.ref d1, .int (nI sz), .int (nI A8), .int cl, .int (nI F8), .int P8, .ref e0])), (d1, .inl (D.1 101, 150, .inl (fun k => nI (t k)))), (e0, .inr (6, [.int (v 0), .ref e1, .ref e2, .ref e3, .ref e4, .int ev])), (e1, .inl (D.1 100, 16, .inl (sE v))), (e2, .inl (D.1 100, 8, .inl (sB v))), (e3, .inl (D.1 100, 5, .inl (sT v))), (e4, .inl (D.1 100, 64, .inl (sG v)))] 0 0 11 [some (.ref d0), some (.int (nI c)), some (.int (nI V1)), none, none] []
  have hF8 : F8 < 100 := flt_F hs8 hF1 (fun e he => qWant_F he)
  have hA8 := hs8.1
  refine g_aload_n hX dX3_readLetter_11 rfl ?_
  refine g_call hX dX3_readLetter_12 cw_X3_87 (ct_X3_readEdge  (by omega) (by first | with_reducible assumption | assumption) (by omega) (by omega)) 0 4 [0, 1] rfl rfl rfl rfl (by decide) rfl (fun ⟨_, _, _, _⟩ => rfl) ⟨by decide, by decide⟩ (Nat.le_of_ble_eq_true rfl) ⟨Nat.le_refl _, Nat.le_refl _⟩ (fun v u hp => ?_)
  obtain ⟨V12, A12, F12, P12⟩ := u
  obtain ⟨rfl, hs12, hv12⟩ := hp
  show G X Q [(d0, .inr (4, [.ref d1, .int (nI sz), .int (nI A12), .int cl, .int (nI F12), .int P12, .ref e0])), (d1, .inl (D.1 101, 150, .inl (fun k => nI (t k)))), (e0, .inr (6, [.int (v 0), .ref e1, .ref e2, .ref e3, .ref e4, .int ev])), (e1, .inl (D.1 100, 16, .inl (sE v))), (e2, .inl (D.1 100, 8, .inl (sB v))), (e3, .inl (D.1 100, 5, .inl (sT v))), (e4, .inl (D.1 100, 64, .inl (sG v)))] 0 0 15 [some (.ref d0), some (.int (nI c)), some (.int (nI V1)), none, none] [.int (nI V12)]
  have hF12 : F12 < 100 := flt_F hs12 hF8 (fun e he => qEdge_F he)
  have hA12 := hs12.1
  refine g_istore_n (L' := [some (.ref d0), some (.int (nI c)), some (.int (nI V1)), some (.int (nI V12)), none]) hX dX3_readLetter_15 (by decide) rfl ?_
  refine g_aload_n hX dX3_readLetter_16 rfl ?_
  refine g_bipush hX dX3_readLetter_17 kn_b_44 ?_
  refine g_call hX dX3_readLetter_19 cw_X3_90 (ct_X3_pass  (by omega) (by first | with_reducible assumption | assumption) (by omega) (by omega) (by omega)) 0 4 [0, 1] rfl rfl rfl rfl (by decide) rfl (fun ⟨_, _, _⟩ => rfl) ⟨by decide, by decide⟩ (Nat.le_of_ble_eq_true rfl) ⟨Nat.le_refl _, Nat.le_refl _⟩ (fun v u hp => ?_)
  obtain ⟨A19, F19, P19⟩ := u
  obtain ⟨rfl, hs19⟩ := hp
  show G X Q [(d0, .inr (4, [.ref d1, .int (nI sz), .int (nI A19), .int cl, .int (nI F19), .int P19, .ref e0])), (d1, .inl (D.1 101, 150, .inl (fun k => nI (t k)))), (e0, .inr (6, [.int (v 0), .ref e1, .ref e2, .ref e3, .ref e4, .int ev])), (e1, .inl (D.1 100, 16, .inl (sE v))), (e2, .inl (D.1 100, 8, .inl (sB v))), (e3, .inl (D.1 100, 5, .inl (sT v))), (e4, .inl (D.1 100, 64, .inl (sG v)))] 0 0 22 [some (.ref d0), some (.int (nI c)), some (.int (nI V1)), some (.int (nI V12)), none] []
  have hF19 : F19 < 100 := flt_F hs19 hF12 (fun e he => qWant_F he)
  have hA19 := hs19.1
  refine g_aload_n hX dX3_readLetter_22 rfl ?_
  refine g_call hX dX3_readLetter_23 cw_X3_93 (ct_X3_readWidth  (by omega) (by first | with_reducible assumption | assumption) (by omega) (by omega)) 0 4 [0, 1] rfl rfl rfl rfl (by decide) rfl (fun ⟨_, _, _, _⟩ => rfl) ⟨by decide, by decide⟩ (Nat.le_of_ble_eq_true rfl) ⟨Nat.le_refl _, Nat.le_refl _⟩ (fun v u hp => ?_)
  obtain ⟨V23, A23, F23, P23⟩ := u
  obtain ⟨rfl, hs23, hv23⟩ := hp
  show G X Q [(d0, .inr (4, [.ref d1, .int (nI sz), .int (nI A23), .int cl, .int (nI F23), .int P23, .ref e0])), (d1, .inl (D.1 101, 150, .inl (fun k => nI (t k)))), (e0, .inr (6, [.int (v 0), .ref e1, .ref e2, .ref e3, .ref e4, .int ev])), (e1, .inl (D.1 100, 16, .inl (sE v))), (e2, .inl (D.1 100, 8, .inl (sB v))), (e3, .inl (D.1 100, 5, .inl (sT v))), (e4, .inl (D.1 100, 64, .inl (sG v)))] 0 0 26 [some (.ref d0), some (.int (nI c)), some (.int (nI V1)), some (.int (nI V12)), none] [.int (nI V23)]
  have hF23 : F23 < 100 := flt_F hs23 hF19 (fun e he => qFig_F he)
  have hA23 := hs23.1
  refine g_istore (L' := [some (.ref d0), some (.int (nI c)), some (.int (nI V1)), some (.int (nI V12)), some (.int (nI V23))]) hX dX3_readLetter_26 (by decide) rfl ?_
  refine g_aload_n hX dX3_readLetter_28 rfl ?_
  refine g_bipush hX dX3_readLetter_29 kn_b_59 ?_
  refine g_call hX dX3_readLetter_31 cw_X3_90 (ct_X3_pass  (by omega) (by first | with_reducible assumption | assumption) (by omega) (by omega) (by omega)) 0 4 [0, 1] rfl rfl rfl rfl (by decide) rfl (fun ⟨_, _, _⟩ => rfl) ⟨by decide, by decide⟩ (Nat.le_of_ble_eq_true rfl) ⟨Nat.le_refl _, Nat.le_refl _⟩ (fun v u hp => ?_)
  obtain ⟨A31, F31, P31⟩ := u
  obtain ⟨rfl, hs31⟩ := hp
  show G X Q [(d0, .inr (4, [.ref d1, .int (nI sz), .int (nI A31), .int cl, .int (nI F31), .int P31, .ref e0])), (d1, .inl (D.1 101, 150, .inl (fun k => nI (t k)))), (e0, .inr (6, [.int (v 0), .ref e1, .ref e2, .ref e3, .ref e4, .int ev])), (e1, .inl (D.1 100, 16, .inl (sE v))), (e2, .inl (D.1 100, 8, .inl (sB v))), (e3, .inl (D.1 100, 5, .inl (sT v))), (e4, .inl (D.1 100, 64, .inl (sG v)))] 0 0 34 [some (.ref d0), some (.int (nI c)), some (.int (nI V1)), some (.int (nI V12)), some (.int (nI V23))] []
  have hF31 : F31 < 100 := flt_F hs31 hF23 (fun e he => qWant_F he)
  have hA31 := hs31.1
  refine g_aload_n hX dX3_readLetter_34 rfl ?_
  refine g_getf hX dX3_readLetter_35 fk_X3_25 0 rfl rfl ?_
  refine g_ifN_ne (tgt := 53) hX dX3_readLetter_38 (by decide) (by omega) (fun h38 => ?_) (fun h38 => ?_)
  · skip
    subst hQ
    exact g_vretU hX dX3_readLetter_53 (A31, F31, P31, v, ev) (⟨rfl, flt_any (lc_all (w := v) (c := c) hs1 hs8 hs12 hs19 hs23 hs31) h38⟩) rfl (Nat.le_refl _) (Nat.le_refl _)
  · skip
    refine g_aload_n hX dX3_readLetter_41 rfl ?_
    refine g_getf hX dX3_readLetter_42 fk_X3_34 0 rfl rfl ?_
    refine g_iload_n hX dX3_readLetter_45 rfl ?_
    refine g_iload_n hX dX3_readLetter_46 rfl ?_
    refine g_iload_n hX dX3_readLetter_47 rfl ?_
    refine g_iload hX dX3_readLetter_48 rfl ?_
    refine g_callFv (ws' := [(d0, .inr (4, [.ref d1, .int (nI sz), .int (nI A31), .int cl, .int (nI F31), .int P31, .ref e0])), (d1, .inl (D.1 101, 150, .inl (fun k => nI (t k)))), (e0, .inr (6, [.int ((rKnow v c (dgt V1) (dgt V12) V23) 0), .ref e1, .ref e2, .ref e3, .ref e4, .int (ev + nI 1)])), (e1, .inl (D.1 100, 16, .inl (sE (rKnow v c (dgt V1) (dgt V12) V23)))), (e2, .inl (D.1 100, 8, .inl (sB (rKnow v c (dgt V1) (dgt V12) V23)))), (e3, .inl (D.1 100, 5, .inl (sT (rKnow v c (dgt V1) (dgt V12) V23)))), (e4, .inl (D.1 100, 64, .inl (sG (rKnow v c (dgt V1) (dgt V12) V23))))]) hX dX3_readLetter_50 cw_X3_96 (ct_X5_learn  (by omega) (by omega) (by omega)) 2 6 [2, 3, 4, 5, 6] rfl rfl rfl rfl (by decide) rfl rfl ⟨by decide, by decide⟩ (Nat.le_of_ble_eq_true rfl) (Nat.le_refl _) (Nat.le_refl _) rfl ?_
    subst hQ
    exact g_vretU hX dX3_readLetter_53 (A31, F31, P31, (rKnow v c (dgt V1) (dgt V12) V23), (ev + nI 1)) (⟨rfl, lc_all hs1 hs8 hs12 hs19 hs23 hs31⟩) rfl (Nat.le_refl _) (Nat.le_refl _)
set_option maxRecDepth 100000 in
set_option maxHeartbeats 4000000 in
theorem ct_X3_readTerm_0 {l : Launch} {D : va_G} {d0 d1 e0 e1 e2 e3 e4 sz pa : Nat} {cl fa ev : Int32} {t : Nat → Nat} {v : Nat → Int32} (hsz : sz ≤ 150) (ht : ∀ k, t k < 256) (hpa : pa ≤ sz) : Ct (S := Nat × Nat × Int32 × (Nat → Int32) × Int32) l D yX3_readTerm cX3_readTerm 3 none 2 47 0 0 [.ref d0, .int (nI 0)] [(d0, .inr (4, [.ref d1, .int (nI sz), .int (nI pa), .int cl, .int (nI 0), .int fa, .ref e0])), (d1, .inl (D.1 101, 150, .inl (fun k => nI (t k)))), (e0, .inr (6, [.int (v 0), .ref e1, .ref e2, .ref e3, .ref e4, .int ev])), (e1, .inl (D.1 100, 16, .inl (sE v))), (e2, .inl (D.1 100, 8, .inl (sB v))), (e3, .inl (D.1 100, 5, .inl (sT v))), (e4, .inl (D.1 100, 64, .inl (sG v)))] (fun (rv : Option Value) (u : Nat × Nat × Int32 × (Nat → Int32) × Int32) => match u with | (A, F, P, W, ev2) => rv = none ∧ (fltP 0 fa F P A sz (qSemi t sz (qTermN t sz v 0 0 99 pa)) (fun a => A = a.1 ∧ W = a.2))) (fun (u : Nat × Nat × Int32 × (Nat → Int32) × Int32) => match u with | (A, F, P, W, ev2) => ([(d0, .inr (4, [.ref d1, .int (nI sz), .int (nI A), .int cl, .int (nI F), .int P, .ref e0])), (d1, .inl (D.1 101, 150, .inl (fun k => nI (t k)))), (e0, .inr (6, [.int (W 0), .ref e1, .ref e2, .ref e3, .ref e4, .int ev2])), (e1, .inl (D.1 100, 16, .inl (sE W))), (e2, .inl (D.1 100, 8, .inl (sB W))), (e3, .inl (D.1 100, 5, .inl (sT W))), (e4, .inl (D.1 100, 64, .inl (sG W)))] : va_W)) := by
  refine Ct.ofG (by decide) (Nat.le_of_ble_eq_true rfl) ?_
  intro X hX
  have hX : CX X l D RX3 "readTerm" cX3_readTerm 3 none 2 47 0 0 := hX
  show G X (QM X 0 0 (fun (rv : Option Value) (u : Nat × Nat × Int32 × (Nat → Int32) × Int32) => match u with | (A, F, P, W, ev2) => rv = none ∧ (fltP 0 fa F P A sz (qSemi t sz (qTermN t sz v 0 0 99 pa)) (fun a => A = a.1 ∧ W = a.2))) (fun (u : Nat × Nat × Int32 × (Nat → Int32) × Int32) => match u with | (A, F, P, W, ev2) => ([(d0, .inr (4, [.ref d1, .int (nI sz), .int (nI A), .int cl, .int (nI F), .int P, .ref e0])), (d1, .inl (D.1 101, 150, .inl (fun k => nI (t k)))), (e0, .inr (6, [.int (W 0), .ref e1, .ref e2, .ref e3, .ref e4, .int ev2])), (e1, .inl (D.1 100, 16, .inl (sE W))), (e2, .inl (D.1 100, 8, .inl (sB W))), (e3, .inl (D.1 100, 5, .inl (sT W))), (e4, .inl (D.1 100, 64, .inl (sG W)))] : va_W))) [(d0, .inr (4, [.ref d1, .int (nI sz), .int (nI pa), .int cl, .int (nI 0), .int fa, .ref e0])), (d1, .inl (D.1 101, 150, .inl (fun k => nI (t k)))), (e0, .inr (6, [.int (v 0), .ref e1, .ref e2, .ref e3, .ref e4, .int ev])), (e1, .inl (D.1 100, 16, .inl (sE v))), (e2, .inl (D.1 100, 8, .inl (sB v))), (e3, .inl (D.1 100, 5, .inl (sT v))), (e4, .inl (D.1 100, 64, .inl (sG v)))] 0 0 0 [some (.ref d0), some (.int (nI 0)), none] []
  generalize hQ : QM X 0 0 (fun (rv : Option Value) (u : Nat × Nat × Int32 × (Nat → Int32) × Int32) => match u with | (A, F, P, W, ev2) => rv = none ∧ (fltP 0 fa F P A sz (qSemi t sz (qTermN t sz v 0 0 99 pa)) (fun a => A = a.1 ∧ W = a.2))) (fun (u : Nat × Nat × Int32 × (Nat → Int32) × Int32) => match u with | (A, F, P, W, ev2) => ([(d0, .inr (4, [.ref d1, .int (nI sz), .int (nI A), .int cl, .int (nI F), .int P, .ref e0])), (d1, .inl (D.1 101, 150, .inl (fun k => nI (t k)))), (e0, .inr (6, [.int (W 0), .ref e1, .ref e2, .ref e3, .ref e4, .int ev2])), (e1, .inl (D.1 100, 16, .inl (sE W))), (e2, .inl (D.1 100, 8, .inl (sB W))), (e3, .inl (D.1 100, 5, .inl (sT W))), (e4, .inl (D.1 100, 64, .inl (sG W)))] : va_W)) = Q
  refine g_aload_n hX dX3_readTerm_0 rfl ?_
  refine g_statA hX dX3_readTerm_1 fs_X3_116 hX.least (fun t1 hT1 => ?_)
  refine g_iload_n hX dX3_readTerm_4 rfl ?_
  refine g_tald hX dX3_readTerm_5 hT1 (by decide) (by omega) ?_
  refine g_top (v' := nI 0) (rfl) ?_
  refine g_statA hX dX3_readTerm_6 fs_X3_120 hX.most (fun t6 hT6 => ?_)
  refine g_iload_n hX dX3_readTerm_9 rfl ?_
  refine g_tald hX dX3_readTerm_10 hT6 (by decide) (by omega) ?_
  refine g_top (v' := nI 99) (rfl) ?_
  refine g_call hX dX3_readTerm_11 cw_X3_108 (ct_X3_readNumber  (by omega) (by first | with_reducible assumption | assumption) (by omega) (by omega) (by omega) (by omega)) 0 4 [0, 1] rfl rfl rfl rfl (by decide) rfl (fun ⟨_, _, _, _⟩ => rfl) ⟨by decide, by decide⟩ (Nat.le_of_ble_eq_true rfl) ⟨Nat.le_refl _, Nat.le_refl _⟩ (fun v u hp => ?_)
  obtain ⟨V11, A11, F11, P11⟩ := u
  obtain ⟨rfl, hs11, hv11⟩ := hp
  show G X Q [(d0, .inr (4, [.ref d1, .int (nI sz), .int (nI A11), .int cl, .int (nI F11), .int P11, .ref e0])), (d1, .inl (D.1 101, 150, .inl (fun k => nI (t k)))), (e0, .inr (6, [.int (v 0), .ref e1, .ref e2, .ref e3, .ref e4, .int ev])), (e1, .inl (D.1 100, 16, .inl (sE v))), (e2, .inl (D.1 100, 8, .inl (sB v))), (e3, .inl (D.1 100, 5, .inl (sT v))), (e4, .inl (D.1 100, 64, .inl (sG v)))] 0 0 14 [some (.ref d0), some (.int (nI 0)), none] [.int (nI V11)]
  have hF11 : F11 < 100 := flt_F hs11 (by decide) (fun e he => qNum_F he)
  have hA11 := hs11.1
  refine g_istore_n (L' := [some (.ref d0), some (.int (nI 0)), some (.int (nI V11))]) hX dX3_readTerm_14 (by decide) rfl ?_
  refine g_aload_n hX dX3_readTerm_15 rfl ?_
  refine g_bipush hX dX3_readTerm_16 kn_b_59 ?_
  refine g_call hX dX3_readTerm_18 cw_X3_90 (ct_X3_pass  (by omega) (by first | with_reducible assumption | assumption) (by omega) (by omega) (by omega)) 0 4 [0, 1] rfl rfl rfl rfl (by decide) rfl (fun ⟨_, _, _⟩ => rfl) ⟨by decide, by decide⟩ (Nat.le_of_ble_eq_true rfl) ⟨Nat.le_refl _, Nat.le_refl _⟩ (fun v u hp => ?_)
  obtain ⟨A18, F18, P18⟩ := u
  obtain ⟨rfl, hs18⟩ := hp
  show G X Q [(d0, .inr (4, [.ref d1, .int (nI sz), .int (nI A18), .int cl, .int (nI F18), .int P18, .ref e0])), (d1, .inl (D.1 101, 150, .inl (fun k => nI (t k)))), (e0, .inr (6, [.int (v 0), .ref e1, .ref e2, .ref e3, .ref e4, .int ev])), (e1, .inl (D.1 100, 16, .inl (sE v))), (e2, .inl (D.1 100, 8, .inl (sB v))), (e3, .inl (D.1 100, 5, .inl (sT v))), (e4, .inl (D.1 100, 64, .inl (sG v)))] 0 0 21 [some (.ref d0), some (.int (nI 0)), some (.int (nI V11))] []
  have hF18 : F18 < 100 := flt_F hs18 hF11 (fun e he => qWant_F he)
  have hA18 := hs18.1
  refine g_aload_n hX dX3_readTerm_21 rfl ?_
  refine g_getf hX dX3_readTerm_22 fk_X3_25 0 rfl rfl ?_
  refine g_ifN_ne (tgt := 37) hX dX3_readTerm_25 (by decide) (by omega) (fun h25 => ?_) (fun h25 => ?_)
  · skip
    subst hQ
    exact g_vretU hX dX3_readTerm_37 (A18, F18, P18, v, ev) (⟨rfl, flt_any (semi_seq (qTermN_map (k := 0) (w := v) hs11) hs18) h25⟩) rfl (Nat.le_refl _) (Nat.le_refl _)
  · skip
    refine g_aload_n hX dX3_readTerm_28 rfl ?_
    refine g_getf hX dX3_readTerm_29 fk_X3_34 0 rfl rfl ?_
    refine g_iload_n hX dX3_readTerm_32 rfl ?_
    refine g_iload_n hX dX3_readTerm_33 rfl ?_
    refine g_callFv (ws' := [(d0, .inr (4, [.ref d1, .int (nI sz), .int (nI A18), .int cl, .int (nI F18), .int P18, .ref e0])), (d1, .inl (D.1 101, 150, .inl (fun k => nI (t k)))), (e0, .inr (6, [.int ((upd v (1 + 0) (nI V11)) 0), .ref e1, .ref e2, .ref e3, .ref e4, .int (ev + nI 1)])), (e1, .inl (D.1 100, 16, .inl (sE (upd v (1 + 0) (nI V11))))), (e2, .inl (D.1 100, 8, .inl (sB (upd v (1 + 0) (nI V11))))), (e3, .inl (D.1 100, 5, .inl (sT (upd v (1 + 0) (nI V11))))), (e4, .inl (D.1 100, 64, .inl (sG (upd v (1 + 0) (nI V11)))))]) hX dX3_readTerm_34 cw_X3_123 (ct_X5_setTerm  (by omega)) 2 6 [2, 3, 4, 5, 6] rfl rfl rfl rfl (by decide) rfl rfl ⟨by decide, by decide⟩ (Nat.le_of_ble_eq_true rfl) (Nat.le_refl _) (Nat.le_refl _) rfl ?_
    subst hQ
    exact g_vretU hX dX3_readTerm_37 (A18, F18, P18, (upd v (1 + 0) (nI V11)), (ev + nI 1)) (⟨rfl, semi_seq (qTermN_map (k := 0) hs11) hs18⟩) rfl (Nat.le_refl _) (Nat.le_refl _)
set_option maxRecDepth 100000 in
set_option maxHeartbeats 4000000 in
theorem ct_X3_readTerm_1 {l : Launch} {D : va_G} {d0 d1 e0 e1 e2 e3 e4 sz pa : Nat} {cl fa ev : Int32} {t : Nat → Nat} {v : Nat → Int32} (hsz : sz ≤ 150) (ht : ∀ k, t k < 256) (hpa : pa ≤ sz) : Ct (S := Nat × Nat × Int32 × (Nat → Int32) × Int32) l D yX3_readTerm cX3_readTerm 3 none 2 47 0 0 [.ref d0, .int (nI 1)] [(d0, .inr (4, [.ref d1, .int (nI sz), .int (nI pa), .int cl, .int (nI 0), .int fa, .ref e0])), (d1, .inl (D.1 101, 150, .inl (fun k => nI (t k)))), (e0, .inr (6, [.int (v 0), .ref e1, .ref e2, .ref e3, .ref e4, .int ev])), (e1, .inl (D.1 100, 16, .inl (sE v))), (e2, .inl (D.1 100, 8, .inl (sB v))), (e3, .inl (D.1 100, 5, .inl (sT v))), (e4, .inl (D.1 100, 64, .inl (sG v)))] (fun (rv : Option Value) (u : Nat × Nat × Int32 × (Nat → Int32) × Int32) => match u with | (A, F, P, W, ev2) => rv = none ∧ (fltP 0 fa F P A sz (qSemi t sz (qTermN t sz v 1 0 20 pa)) (fun a => A = a.1 ∧ W = a.2))) (fun (u : Nat × Nat × Int32 × (Nat → Int32) × Int32) => match u with | (A, F, P, W, ev2) => ([(d0, .inr (4, [.ref d1, .int (nI sz), .int (nI A), .int cl, .int (nI F), .int P, .ref e0])), (d1, .inl (D.1 101, 150, .inl (fun k => nI (t k)))), (e0, .inr (6, [.int (W 0), .ref e1, .ref e2, .ref e3, .ref e4, .int ev2])), (e1, .inl (D.1 100, 16, .inl (sE W))), (e2, .inl (D.1 100, 8, .inl (sB W))), (e3, .inl (D.1 100, 5, .inl (sT W))), (e4, .inl (D.1 100, 64, .inl (sG W)))] : va_W)) := by
  refine Ct.ofG (by decide) (Nat.le_of_ble_eq_true rfl) ?_
  intro X hX
  have hX : CX X l D RX3 "readTerm" cX3_readTerm 3 none 2 47 0 0 := hX
  show G X (QM X 0 0 (fun (rv : Option Value) (u : Nat × Nat × Int32 × (Nat → Int32) × Int32) => match u with | (A, F, P, W, ev2) => rv = none ∧ (fltP 0 fa F P A sz (qSemi t sz (qTermN t sz v 1 0 20 pa)) (fun a => A = a.1 ∧ W = a.2))) (fun (u : Nat × Nat × Int32 × (Nat → Int32) × Int32) => match u with | (A, F, P, W, ev2) => ([(d0, .inr (4, [.ref d1, .int (nI sz), .int (nI A), .int cl, .int (nI F), .int P, .ref e0])), (d1, .inl (D.1 101, 150, .inl (fun k => nI (t k)))), (e0, .inr (6, [.int (W 0), .ref e1, .ref e2, .ref e3, .ref e4, .int ev2])), (e1, .inl (D.1 100, 16, .inl (sE W))), (e2, .inl (D.1 100, 8, .inl (sB W))), (e3, .inl (D.1 100, 5, .inl (sT W))), (e4, .inl (D.1 100, 64, .inl (sG W)))] : va_W))) [(d0, .inr (4, [.ref d1, .int (nI sz), .int (nI pa), .int cl, .int (nI 0), .int fa, .ref e0])), (d1, .inl (D.1 101, 150, .inl (fun k => nI (t k)))), (e0, .inr (6, [.int (v 0), .ref e1, .ref e2, .ref e3, .ref e4, .int ev])), (e1, .inl (D.1 100, 16, .inl (sE v))), (e2, .inl (D.1 100, 8, .inl (sB v))), (e3, .inl (D.1 100, 5, .inl (sT v))), (e4, .inl (D.1 100, 64, .inl (sG v)))] 0 0 0 [some (.ref d0), some (.int (nI 1)), none] []
  generalize hQ : QM X 0 0 (fun (rv : Option Value) (u : Nat × Nat × Int32 × (Nat → Int32) × Int32) => match u with | (A, F, P, W, ev2) => rv = none ∧ (fltP 0 fa F P A sz (qSemi t sz (qTermN t sz v 1 0 20 pa)) (fun a => A = a.1 ∧ W = a.2))) (fun (u : Nat × Nat × Int32 × (Nat → Int32) × Int32) => match u with | (A, F, P, W, ev2) => ([(d0, .inr (4, [.ref d1, .int (nI sz), .int (nI A), .int cl, .int (nI F), .int P, .ref e0])), (d1, .inl (D.1 101, 150, .inl (fun k => nI (t k)))), (e0, .inr (6, [.int (W 0), .ref e1, .ref e2, .ref e3, .ref e4, .int ev2])), (e1, .inl (D.1 100, 16, .inl (sE W))), (e2, .inl (D.1 100, 8, .inl (sB W))), (e3, .inl (D.1 100, 5, .inl (sT W))), (e4, .inl (D.1 100, 64, .inl (sG W)))] : va_W)) = Q
  refine g_aload_n hX dX3_readTerm_0 rfl ?_
  refine g_statA hX dX3_readTerm_1 fs_X3_116 hX.least (fun t1 hT1 => ?_)
  refine g_iload_n hX dX3_readTerm_4 rfl ?_
  refine g_tald hX dX3_readTerm_5 hT1 (by decide) (by omega) ?_
  refine g_top (v' := nI 0) (rfl) ?_
  refine g_statA hX dX3_readTerm_6 fs_X3_120 hX.most (fun t6 hT6 => ?_)
  refine g_iload_n hX dX3_readTerm_9 rfl ?_
  refine g_tald hX dX3_readTerm_10 hT6 (by decide) (by omega) ?_
  refine g_top (v' := nI 20) (rfl) ?_
  refine g_call hX dX3_readTerm_11 cw_X3_108 (ct_X3_readNumber  (by omega) (by first | with_reducible assumption | assumption) (by omega) (by omega) (by omega) (by omega)) 0 4 [0, 1] rfl rfl rfl rfl (by decide) rfl (fun ⟨_, _, _, _⟩ => rfl) ⟨by decide, by decide⟩ (Nat.le_of_ble_eq_true rfl) ⟨Nat.le_refl _, Nat.le_refl _⟩ (fun v u hp => ?_)
  obtain ⟨V11, A11, F11, P11⟩ := u
  obtain ⟨rfl, hs11, hv11⟩ := hp
  show G X Q [(d0, .inr (4, [.ref d1, .int (nI sz), .int (nI A11), .int cl, .int (nI F11), .int P11, .ref e0])), (d1, .inl (D.1 101, 150, .inl (fun k => nI (t k)))), (e0, .inr (6, [.int (v 0), .ref e1, .ref e2, .ref e3, .ref e4, .int ev])), (e1, .inl (D.1 100, 16, .inl (sE v))), (e2, .inl (D.1 100, 8, .inl (sB v))), (e3, .inl (D.1 100, 5, .inl (sT v))), (e4, .inl (D.1 100, 64, .inl (sG v)))] 0 0 14 [some (.ref d0), some (.int (nI 1)), none] [.int (nI V11)]
  have hF11 : F11 < 100 := flt_F hs11 (by decide) (fun e he => qNum_F he)
  have hA11 := hs11.1
  refine g_istore_n (L' := [some (.ref d0), some (.int (nI 1)), some (.int (nI V11))]) hX dX3_readTerm_14 (by decide) rfl ?_
  refine g_aload_n hX dX3_readTerm_15 rfl ?_
  refine g_bipush hX dX3_readTerm_16 kn_b_59 ?_
  refine g_call hX dX3_readTerm_18 cw_X3_90 (ct_X3_pass  (by omega) (by first | with_reducible assumption | assumption) (by omega) (by omega) (by omega)) 0 4 [0, 1] rfl rfl rfl rfl (by decide) rfl (fun ⟨_, _, _⟩ => rfl) ⟨by decide, by decide⟩ (Nat.le_of_ble_eq_true rfl) ⟨Nat.le_refl _, Nat.le_refl _⟩ (fun v u hp => ?_)
  obtain ⟨A18, F18, P18⟩ := u
  obtain ⟨rfl, hs18⟩ := hp
  show G X Q [(d0, .inr (4, [.ref d1, .int (nI sz), .int (nI A18), .int cl, .int (nI F18), .int P18, .ref e0])), (d1, .inl (D.1 101, 150, .inl (fun k => nI (t k)))), (e0, .inr (6, [.int (v 0), .ref e1, .ref e2, .ref e3, .ref e4, .int ev])), (e1, .inl (D.1 100, 16, .inl (sE v))), (e2, .inl (D.1 100, 8, .inl (sB v))), (e3, .inl (D.1 100, 5, .inl (sT v))), (e4, .inl (D.1 100, 64, .inl (sG v)))] 0 0 21 [some (.ref d0), some (.int (nI 1)), some (.int (nI V11))] []
  have hF18 : F18 < 100 := flt_F hs18 hF11 (fun e he => qWant_F he)
  have hA18 := hs18.1
  refine g_aload_n hX dX3_readTerm_21 rfl ?_
  refine g_getf hX dX3_readTerm_22 fk_X3_25 0 rfl rfl ?_
  refine g_ifN_ne (tgt := 37) hX dX3_readTerm_25 (by decide) (by omega) (fun h25 => ?_) (fun h25 => ?_)
  · skip
    subst hQ
    exact g_vretU hX dX3_readTerm_37 (A18, F18, P18, v, ev) (⟨rfl, flt_any (semi_seq (qTermN_map (k := 1) (w := v) hs11) hs18) h25⟩) rfl (Nat.le_refl _) (Nat.le_refl _)
  · skip
    refine g_aload_n hX dX3_readTerm_28 rfl ?_
    refine g_getf hX dX3_readTerm_29 fk_X3_34 0 rfl rfl ?_
    refine g_iload_n hX dX3_readTerm_32 rfl ?_
    refine g_iload_n hX dX3_readTerm_33 rfl ?_
    refine g_callFv (ws' := [(d0, .inr (4, [.ref d1, .int (nI sz), .int (nI A18), .int cl, .int (nI F18), .int P18, .ref e0])), (d1, .inl (D.1 101, 150, .inl (fun k => nI (t k)))), (e0, .inr (6, [.int ((upd v (1 + 1) (nI V11)) 0), .ref e1, .ref e2, .ref e3, .ref e4, .int (ev + nI 1)])), (e1, .inl (D.1 100, 16, .inl (sE (upd v (1 + 1) (nI V11))))), (e2, .inl (D.1 100, 8, .inl (sB (upd v (1 + 1) (nI V11))))), (e3, .inl (D.1 100, 5, .inl (sT (upd v (1 + 1) (nI V11))))), (e4, .inl (D.1 100, 64, .inl (sG (upd v (1 + 1) (nI V11)))))]) hX dX3_readTerm_34 cw_X3_123 (ct_X5_setTerm  (by omega)) 2 6 [2, 3, 4, 5, 6] rfl rfl rfl rfl (by decide) rfl rfl ⟨by decide, by decide⟩ (Nat.le_of_ble_eq_true rfl) (Nat.le_refl _) (Nat.le_refl _) rfl ?_
    subst hQ
    exact g_vretU hX dX3_readTerm_37 (A18, F18, P18, (upd v (1 + 1) (nI V11)), (ev + nI 1)) (⟨rfl, semi_seq (qTermN_map (k := 1) hs11) hs18⟩) rfl (Nat.le_refl _) (Nat.le_refl _)
set_option maxRecDepth 100000 in
set_option maxHeartbeats 4000000 in
theorem ct_X3_readTerm_2 {l : Launch} {D : va_G} {d0 d1 e0 e1 e2 e3 e4 sz pa : Nat} {cl fa ev : Int32} {t : Nat → Nat} {v : Nat → Int32} (hsz : sz ≤ 150) (ht : ∀ k, t k < 256) (hpa : pa ≤ sz) : Ct (S := Nat × Nat × Int32 × (Nat → Int32) × Int32) l D yX3_readTerm cX3_readTerm 3 none 2 47 0 0 [.ref d0, .int (nI 2)] [(d0, .inr (4, [.ref d1, .int (nI sz), .int (nI pa), .int cl, .int (nI 0), .int fa, .ref e0])), (d1, .inl (D.1 101, 150, .inl (fun k => nI (t k)))), (e0, .inr (6, [.int (v 0), .ref e1, .ref e2, .ref e3, .ref e4, .int ev])), (e1, .inl (D.1 100, 16, .inl (sE v))), (e2, .inl (D.1 100, 8, .inl (sB v))), (e3, .inl (D.1 100, 5, .inl (sT v))), (e4, .inl (D.1 100, 64, .inl (sG v)))] (fun (rv : Option Value) (u : Nat × Nat × Int32 × (Nat → Int32) × Int32) => match u with | (A, F, P, W, ev2) => rv = none ∧ (fltP 0 fa F P A sz (qSemi t sz (qTermN t sz v 2 1 20 pa)) (fun a => A = a.1 ∧ W = a.2))) (fun (u : Nat × Nat × Int32 × (Nat → Int32) × Int32) => match u with | (A, F, P, W, ev2) => ([(d0, .inr (4, [.ref d1, .int (nI sz), .int (nI A), .int cl, .int (nI F), .int P, .ref e0])), (d1, .inl (D.1 101, 150, .inl (fun k => nI (t k)))), (e0, .inr (6, [.int (W 0), .ref e1, .ref e2, .ref e3, .ref e4, .int ev2])), (e1, .inl (D.1 100, 16, .inl (sE W))), (e2, .inl (D.1 100, 8, .inl (sB W))), (e3, .inl (D.1 100, 5, .inl (sT W))), (e4, .inl (D.1 100, 64, .inl (sG W)))] : va_W)) := by
  refine Ct.ofG (by decide) (Nat.le_of_ble_eq_true rfl) ?_
  intro X hX
  have hX : CX X l D RX3 "readTerm" cX3_readTerm 3 none 2 47 0 0 := hX
  show G X (QM X 0 0 (fun (rv : Option Value) (u : Nat × Nat × Int32 × (Nat → Int32) × Int32) => match u with | (A, F, P, W, ev2) => rv = none ∧ (fltP 0 fa F P A sz (qSemi t sz (qTermN t sz v 2 1 20 pa)) (fun a => A = a.1 ∧ W = a.2))) (fun (u : Nat × Nat × Int32 × (Nat → Int32) × Int32) => match u with | (A, F, P, W, ev2) => ([(d0, .inr (4, [.ref d1, .int (nI sz), .int (nI A), .int cl, .int (nI F), .int P, .ref e0])), (d1, .inl (D.1 101, 150, .inl (fun k => nI (t k)))), (e0, .inr (6, [.int (W 0), .ref e1, .ref e2, .ref e3, .ref e4, .int ev2])), (e1, .inl (D.1 100, 16, .inl (sE W))), (e2, .inl (D.1 100, 8, .inl (sB W))), (e3, .inl (D.1 100, 5, .inl (sT W))), (e4, .inl (D.1 100, 64, .inl (sG W)))] : va_W))) [(d0, .inr (4, [.ref d1, .int (nI sz), .int (nI pa), .int cl, .int (nI 0), .int fa, .ref e0])), (d1, .inl (D.1 101, 150, .inl (fun k => nI (t k)))), (e0, .inr (6, [.int (v 0), .ref e1, .ref e2, .ref e3, .ref e4, .int ev])), (e1, .inl (D.1 100, 16, .inl (sE v))), (e2, .inl (D.1 100, 8, .inl (sB v))), (e3, .inl (D.1 100, 5, .inl (sT v))), (e4, .inl (D.1 100, 64, .inl (sG v)))] 0 0 0 [some (.ref d0), some (.int (nI 2)), none] []
  generalize hQ : QM X 0 0 (fun (rv : Option Value) (u : Nat × Nat × Int32 × (Nat → Int32) × Int32) => match u with | (A, F, P, W, ev2) => rv = none ∧ (fltP 0 fa F P A sz (qSemi t sz (qTermN t sz v 2 1 20 pa)) (fun a => A = a.1 ∧ W = a.2))) (fun (u : Nat × Nat × Int32 × (Nat → Int32) × Int32) => match u with | (A, F, P, W, ev2) => ([(d0, .inr (4, [.ref d1, .int (nI sz), .int (nI A), .int cl, .int (nI F), .int P, .ref e0])), (d1, .inl (D.1 101, 150, .inl (fun k => nI (t k)))), (e0, .inr (6, [.int (W 0), .ref e1, .ref e2, .ref e3, .ref e4, .int ev2])), (e1, .inl (D.1 100, 16, .inl (sE W))), (e2, .inl (D.1 100, 8, .inl (sB W))), (e3, .inl (D.1 100, 5, .inl (sT W))), (e4, .inl (D.1 100, 64, .inl (sG W)))] : va_W)) = Q
  refine g_aload_n hX dX3_readTerm_0 rfl ?_
  refine g_statA hX dX3_readTerm_1 fs_X3_116 hX.least (fun t1 hT1 => ?_)
  refine g_iload_n hX dX3_readTerm_4 rfl ?_
  refine g_tald hX dX3_readTerm_5 hT1 (by decide) (by omega) ?_
  refine g_top (v' := nI 1) (rfl) ?_
  refine g_statA hX dX3_readTerm_6 fs_X3_120 hX.most (fun t6 hT6 => ?_)
  refine g_iload_n hX dX3_readTerm_9 rfl ?_
  refine g_tald hX dX3_readTerm_10 hT6 (by decide) (by omega) ?_
  refine g_top (v' := nI 20) (rfl) ?_
  refine g_call hX dX3_readTerm_11 cw_X3_108 (ct_X3_readNumber  (by omega) (by first | with_reducible assumption | assumption) (by omega) (by omega) (by omega) (by omega)) 0 4 [0, 1] rfl rfl rfl rfl (by decide) rfl (fun ⟨_, _, _, _⟩ => rfl) ⟨by decide, by decide⟩ (Nat.le_of_ble_eq_true rfl) ⟨Nat.le_refl _, Nat.le_refl _⟩ (fun v u hp => ?_)
  obtain ⟨V11, A11, F11, P11⟩ := u
  obtain ⟨rfl, hs11, hv11⟩ := hp
  show G X Q [(d0, .inr (4, [.ref d1, .int (nI sz), .int (nI A11), .int cl, .int (nI F11), .int P11, .ref e0])), (d1, .inl (D.1 101, 150, .inl (fun k => nI (t k)))), (e0, .inr (6, [.int (v 0), .ref e1, .ref e2, .ref e3, .ref e4, .int ev])), (e1, .inl (D.1 100, 16, .inl (sE v))), (e2, .inl (D.1 100, 8, .inl (sB v))), (e3, .inl (D.1 100, 5, .inl (sT v))), (e4, .inl (D.1 100, 64, .inl (sG v)))] 0 0 14 [some (.ref d0), some (.int (nI 2)), none] [.int (nI V11)]
  have hF11 : F11 < 100 := flt_F hs11 (by decide) (fun e he => qNum_F he)
  have hA11 := hs11.1
  refine g_istore_n (L' := [some (.ref d0), some (.int (nI 2)), some (.int (nI V11))]) hX dX3_readTerm_14 (by decide) rfl ?_
  refine g_aload_n hX dX3_readTerm_15 rfl ?_
  refine g_bipush hX dX3_readTerm_16 kn_b_59 ?_
  refine g_call hX dX3_readTerm_18 cw_X3_90 (ct_X3_pass  (by omega) (by first | with_reducible assumption | assumption) (by omega) (by omega) (by omega)) 0 4 [0, 1] rfl rfl rfl rfl (by decide) rfl (fun ⟨_, _, _⟩ => rfl) ⟨by decide, by decide⟩ (Nat.le_of_ble_eq_true rfl) ⟨Nat.le_refl _, Nat.le_refl _⟩ (fun v u hp => ?_)
  obtain ⟨A18, F18, P18⟩ := u
  obtain ⟨rfl, hs18⟩ := hp
  show G X Q [(d0, .inr (4, [.ref d1, .int (nI sz), .int (nI A18), .int cl, .int (nI F18), .int P18, .ref e0])), (d1, .inl (D.1 101, 150, .inl (fun k => nI (t k)))), (e0, .inr (6, [.int (v 0), .ref e1, .ref e2, .ref e3, .ref e4, .int ev])), (e1, .inl (D.1 100, 16, .inl (sE v))), (e2, .inl (D.1 100, 8, .inl (sB v))), (e3, .inl (D.1 100, 5, .inl (sT v))), (e4, .inl (D.1 100, 64, .inl (sG v)))] 0 0 21 [some (.ref d0), some (.int (nI 2)), some (.int (nI V11))] []
  have hF18 : F18 < 100 := flt_F hs18 hF11 (fun e he => qWant_F he)
  have hA18 := hs18.1
  refine g_aload_n hX dX3_readTerm_21 rfl ?_
  refine g_getf hX dX3_readTerm_22 fk_X3_25 0 rfl rfl ?_
  refine g_ifN_ne (tgt := 37) hX dX3_readTerm_25 (by decide) (by omega) (fun h25 => ?_) (fun h25 => ?_)
  · skip
    subst hQ
    exact g_vretU hX dX3_readTerm_37 (A18, F18, P18, v, ev) (⟨rfl, flt_any (semi_seq (qTermN_map (k := 2) (w := v) hs11) hs18) h25⟩) rfl (Nat.le_refl _) (Nat.le_refl _)
  · skip
    refine g_aload_n hX dX3_readTerm_28 rfl ?_
    refine g_getf hX dX3_readTerm_29 fk_X3_34 0 rfl rfl ?_
    refine g_iload_n hX dX3_readTerm_32 rfl ?_
    refine g_iload_n hX dX3_readTerm_33 rfl ?_
    refine g_callFv (ws' := [(d0, .inr (4, [.ref d1, .int (nI sz), .int (nI A18), .int cl, .int (nI F18), .int P18, .ref e0])), (d1, .inl (D.1 101, 150, .inl (fun k => nI (t k)))), (e0, .inr (6, [.int ((upd v (1 + 2) (nI V11)) 0), .ref e1, .ref e2, .ref e3, .ref e4, .int (ev + nI 1)])), (e1, .inl (D.1 100, 16, .inl (sE (upd v (1 + 2) (nI V11))))), (e2, .inl (D.1 100, 8, .inl (sB (upd v (1 + 2) (nI V11))))), (e3, .inl (D.1 100, 5, .inl (sT (upd v (1 + 2) (nI V11))))), (e4, .inl (D.1 100, 64, .inl (sG (upd v (1 + 2) (nI V11)))))]) hX dX3_readTerm_34 cw_X3_123 (ct_X5_setTerm  (by omega)) 2 6 [2, 3, 4, 5, 6] rfl rfl rfl rfl (by decide) rfl rfl ⟨by decide, by decide⟩ (Nat.le_of_ble_eq_true rfl) (Nat.le_refl _) (Nat.le_refl _) rfl ?_
    subst hQ
    exact g_vretU hX dX3_readTerm_37 (A18, F18, P18, (upd v (1 + 2) (nI V11)), (ev + nI 1)) (⟨rfl, semi_seq (qTermN_map (k := 2) hs11) hs18⟩) rfl (Nat.le_refl _) (Nat.le_refl _)
set_option maxRecDepth 100000 in
set_option maxHeartbeats 4000000 in
theorem ct_X3_readTerm_3 {l : Launch} {D : va_G} {d0 d1 e0 e1 e2 e3 e4 sz pa : Nat} {cl fa ev : Int32} {t : Nat → Nat} {v : Nat → Int32} (hsz : sz ≤ 150) (ht : ∀ k, t k < 256) (hpa : pa ≤ sz) : Ct (S := Nat × Nat × Int32 × (Nat → Int32) × Int32) l D yX3_readTerm cX3_readTerm 3 none 2 47 0 0 [.ref d0, .int (nI 3)] [(d0, .inr (4, [.ref d1, .int (nI sz), .int (nI pa), .int cl, .int (nI 0), .int fa, .ref e0])), (d1, .inl (D.1 101, 150, .inl (fun k => nI (t k)))), (e0, .inr (6, [.int (v 0), .ref e1, .ref e2, .ref e3, .ref e4, .int ev])), (e1, .inl (D.1 100, 16, .inl (sE v))), (e2, .inl (D.1 100, 8, .inl (sB v))), (e3, .inl (D.1 100, 5, .inl (sT v))), (e4, .inl (D.1 100, 64, .inl (sG v)))] (fun (rv : Option Value) (u : Nat × Nat × Int32 × (Nat → Int32) × Int32) => match u with | (A, F, P, W, ev2) => rv = none ∧ (fltP 0 fa F P A sz (qSemi t sz (qTermN t sz v 3 0 99 pa)) (fun a => A = a.1 ∧ W = a.2))) (fun (u : Nat × Nat × Int32 × (Nat → Int32) × Int32) => match u with | (A, F, P, W, ev2) => ([(d0, .inr (4, [.ref d1, .int (nI sz), .int (nI A), .int cl, .int (nI F), .int P, .ref e0])), (d1, .inl (D.1 101, 150, .inl (fun k => nI (t k)))), (e0, .inr (6, [.int (W 0), .ref e1, .ref e2, .ref e3, .ref e4, .int ev2])), (e1, .inl (D.1 100, 16, .inl (sE W))), (e2, .inl (D.1 100, 8, .inl (sB W))), (e3, .inl (D.1 100, 5, .inl (sT W))), (e4, .inl (D.1 100, 64, .inl (sG W)))] : va_W)) := by
  refine Ct.ofG (by decide) (Nat.le_of_ble_eq_true rfl) ?_
  intro X hX
  have hX : CX X l D RX3 "readTerm" cX3_readTerm 3 none 2 47 0 0 := hX
  show G X (QM X 0 0 (fun (rv : Option Value) (u : Nat × Nat × Int32 × (Nat → Int32) × Int32) => match u with | (A, F, P, W, ev2) => rv = none ∧ (fltP 0 fa F P A sz (qSemi t sz (qTermN t sz v 3 0 99 pa)) (fun a => A = a.1 ∧ W = a.2))) (fun (u : Nat × Nat × Int32 × (Nat → Int32) × Int32) => match u with | (A, F, P, W, ev2) => ([(d0, .inr (4, [.ref d1, .int (nI sz), .int (nI A), .int cl, .int (nI F), .int P, .ref e0])), (d1, .inl (D.1 101, 150, .inl (fun k => nI (t k)))), (e0, .inr (6, [.int (W 0), .ref e1, .ref e2, .ref e3, .ref e4, .int ev2])), (e1, .inl (D.1 100, 16, .inl (sE W))), (e2, .inl (D.1 100, 8, .inl (sB W))), (e3, .inl (D.1 100, 5, .inl (sT W))), (e4, .inl (D.1 100, 64, .inl (sG W)))] : va_W))) [(d0, .inr (4, [.ref d1, .int (nI sz), .int (nI pa), .int cl, .int (nI 0), .int fa, .ref e0])), (d1, .inl (D.1 101, 150, .inl (fun k => nI (t k)))), (e0, .inr (6, [.int (v 0), .ref e1, .ref e2, .ref e3, .ref e4, .int ev])), (e1, .inl (D.1 100, 16, .inl (sE v))), (e2, .inl (D.1 100, 8, .inl (sB v))), (e3, .inl (D.1 100, 5, .inl (sT v))), (e4, .inl (D.1 100, 64, .inl (sG v)))] 0 0 0 [some (.ref d0), some (.int (nI 3)), none] []
  generalize hQ : QM X 0 0 (fun (rv : Option Value) (u : Nat × Nat × Int32 × (Nat → Int32) × Int32) => match u with | (A, F, P, W, ev2) => rv = none ∧ (fltP 0 fa F P A sz (qSemi t sz (qTermN t sz v 3 0 99 pa)) (fun a => A = a.1 ∧ W = a.2))) (fun (u : Nat × Nat × Int32 × (Nat → Int32) × Int32) => match u with | (A, F, P, W, ev2) => ([(d0, .inr (4, [.ref d1, .int (nI sz), .int (nI A), .int cl, .int (nI F), .int P, .ref e0])), (d1, .inl (D.1 101, 150, .inl (fun k => nI (t k)))), (e0, .inr (6, [.int (W 0), .ref e1, .ref e2, .ref e3, .ref e4, .int ev2])), (e1, .inl (D.1 100, 16, .inl (sE W))), (e2, .inl (D.1 100, 8, .inl (sB W))), (e3, .inl (D.1 100, 5, .inl (sT W))), (e4, .inl (D.1 100, 64, .inl (sG W)))] : va_W)) = Q
  refine g_aload_n hX dX3_readTerm_0 rfl ?_
  refine g_statA hX dX3_readTerm_1 fs_X3_116 hX.least (fun t1 hT1 => ?_)
  refine g_iload_n hX dX3_readTerm_4 rfl ?_
  refine g_tald hX dX3_readTerm_5 hT1 (by decide) (by omega) ?_
  refine g_top (v' := nI 0) (rfl) ?_
  refine g_statA hX dX3_readTerm_6 fs_X3_120 hX.most (fun t6 hT6 => ?_)
  refine g_iload_n hX dX3_readTerm_9 rfl ?_
  refine g_tald hX dX3_readTerm_10 hT6 (by decide) (by omega) ?_
  refine g_top (v' := nI 99) (rfl) ?_
  refine g_call hX dX3_readTerm_11 cw_X3_108 (ct_X3_readNumber  (by omega) (by first | with_reducible assumption | assumption) (by omega) (by omega) (by omega) (by omega)) 0 4 [0, 1] rfl rfl rfl rfl (by decide) rfl (fun ⟨_, _, _, _⟩ => rfl) ⟨by decide, by decide⟩ (Nat.le_of_ble_eq_true rfl) ⟨Nat.le_refl _, Nat.le_refl _⟩ (fun v u hp => ?_)
  obtain ⟨V11, A11, F11, P11⟩ := u
  obtain ⟨rfl, hs11, hv11⟩ := hp
  show G X Q [(d0, .inr (4, [.ref d1, .int (nI sz), .int (nI A11), .int cl, .int (nI F11), .int P11, .ref e0])), (d1, .inl (D.1 101, 150, .inl (fun k => nI (t k)))), (e0, .inr (6, [.int (v 0), .ref e1, .ref e2, .ref e3, .ref e4, .int ev])), (e1, .inl (D.1 100, 16, .inl (sE v))), (e2, .inl (D.1 100, 8, .inl (sB v))), (e3, .inl (D.1 100, 5, .inl (sT v))), (e4, .inl (D.1 100, 64, .inl (sG v)))] 0 0 14 [some (.ref d0), some (.int (nI 3)), none] [.int (nI V11)]
  have hF11 : F11 < 100 := flt_F hs11 (by decide) (fun e he => qNum_F he)
  have hA11 := hs11.1
  refine g_istore_n (L' := [some (.ref d0), some (.int (nI 3)), some (.int (nI V11))]) hX dX3_readTerm_14 (by decide) rfl ?_
  refine g_aload_n hX dX3_readTerm_15 rfl ?_
  refine g_bipush hX dX3_readTerm_16 kn_b_59 ?_
  refine g_call hX dX3_readTerm_18 cw_X3_90 (ct_X3_pass  (by omega) (by first | with_reducible assumption | assumption) (by omega) (by omega) (by omega)) 0 4 [0, 1] rfl rfl rfl rfl (by decide) rfl (fun ⟨_, _, _⟩ => rfl) ⟨by decide, by decide⟩ (Nat.le_of_ble_eq_true rfl) ⟨Nat.le_refl _, Nat.le_refl _⟩ (fun v u hp => ?_)
  obtain ⟨A18, F18, P18⟩ := u
  obtain ⟨rfl, hs18⟩ := hp
  show G X Q [(d0, .inr (4, [.ref d1, .int (nI sz), .int (nI A18), .int cl, .int (nI F18), .int P18, .ref e0])), (d1, .inl (D.1 101, 150, .inl (fun k => nI (t k)))), (e0, .inr (6, [.int (v 0), .ref e1, .ref e2, .ref e3, .ref e4, .int ev])), (e1, .inl (D.1 100, 16, .inl (sE v))), (e2, .inl (D.1 100, 8, .inl (sB v))), (e3, .inl (D.1 100, 5, .inl (sT v))), (e4, .inl (D.1 100, 64, .inl (sG v)))] 0 0 21 [some (.ref d0), some (.int (nI 3)), some (.int (nI V11))] []
  have hF18 : F18 < 100 := flt_F hs18 hF11 (fun e he => qWant_F he)
  have hA18 := hs18.1
  refine g_aload_n hX dX3_readTerm_21 rfl ?_
  refine g_getf hX dX3_readTerm_22 fk_X3_25 0 rfl rfl ?_
  refine g_ifN_ne (tgt := 37) hX dX3_readTerm_25 (by decide) (by omega) (fun h25 => ?_) (fun h25 => ?_)
  · skip
    subst hQ
    exact g_vretU hX dX3_readTerm_37 (A18, F18, P18, v, ev) (⟨rfl, flt_any (semi_seq (qTermN_map (k := 3) (w := v) hs11) hs18) h25⟩) rfl (Nat.le_refl _) (Nat.le_refl _)
  · skip
    refine g_aload_n hX dX3_readTerm_28 rfl ?_
    refine g_getf hX dX3_readTerm_29 fk_X3_34 0 rfl rfl ?_
    refine g_iload_n hX dX3_readTerm_32 rfl ?_
    refine g_iload_n hX dX3_readTerm_33 rfl ?_
    refine g_callFv (ws' := [(d0, .inr (4, [.ref d1, .int (nI sz), .int (nI A18), .int cl, .int (nI F18), .int P18, .ref e0])), (d1, .inl (D.1 101, 150, .inl (fun k => nI (t k)))), (e0, .inr (6, [.int ((upd v (1 + 3) (nI V11)) 0), .ref e1, .ref e2, .ref e3, .ref e4, .int (ev + nI 1)])), (e1, .inl (D.1 100, 16, .inl (sE (upd v (1 + 3) (nI V11))))), (e2, .inl (D.1 100, 8, .inl (sB (upd v (1 + 3) (nI V11))))), (e3, .inl (D.1 100, 5, .inl (sT (upd v (1 + 3) (nI V11))))), (e4, .inl (D.1 100, 64, .inl (sG (upd v (1 + 3) (nI V11)))))]) hX dX3_readTerm_34 cw_X3_123 (ct_X5_setTerm  (by omega)) 2 6 [2, 3, 4, 5, 6] rfl rfl rfl rfl (by decide) rfl rfl ⟨by decide, by decide⟩ (Nat.le_of_ble_eq_true rfl) (Nat.le_refl _) (Nat.le_refl _) rfl ?_
    subst hQ
    exact g_vretU hX dX3_readTerm_37 (A18, F18, P18, (upd v (1 + 3) (nI V11)), (ev + nI 1)) (⟨rfl, semi_seq (qTermN_map (k := 3) hs11) hs18⟩) rfl (Nat.le_refl _) (Nat.le_refl _)
set_option maxRecDepth 100000 in
set_option maxHeartbeats 4000000 in
theorem ct_X3_readPair {l : Launch} {D : va_G} {d0 d1 e0 e1 e2 e3 e4 sz pa : Nat} {cl fa ev : Int32} {t : Nat → Nat} {v : Nat → Int32} {s : Nat} (hsz : sz ≤ 150) (ht : ∀ k, t k < 256) (hpa : pa ≤ sz) (hs1 : s + 2 = pa) (hl1 : 97 ≤ t s ∧ t s < 105) (hl2 : 97 ≤ t (s + 1) ∧ t (s + 1) < 105) : Ct (S := Nat × Nat × Int32 × (Nat → Int32) × Int32) l D yX3_readPair cX3_readPair 6 none 2 47 0 0 [.ref d0, .int (nI s)] [(d0, .inr (4, [.ref d1, .int (nI sz), .int (nI pa), .int cl, .int (nI 0), .int fa, .ref e0])), (d1, .inl (D.1 101, 150, .inl (fun k => nI (t k)))), (e0, .inr (6, [.int (v 0), .ref e1, .ref e2, .ref e3, .ref e4, .int ev])), (e1, .inl (D.1 100, 16, .inl (sE v))), (e2, .inl (D.1 100, 8, .inl (sB v))), (e3, .inl (D.1 100, 5, .inl (sT v))), (e4, .inl (D.1 100, 64, .inl (sG v)))] (fun (rv : Option Value) (u : Nat × Nat × Int32 × (Nat → Int32) × Int32) => match u with | (A, F, P, W, ev2) => rv = none ∧ (fltP 0 fa F P A sz (qSemi t sz (qPair t sz v (t s - 97) (t (s + 1) - 97) s pa)) (fun a => A = a.1 ∧ W = a.2))) (fun (u : Nat × Nat × Int32 × (Nat → Int32) × Int32) => match u with | (A, F, P, W, ev2) => ([(d0, .inr (4, [.ref d1, .int (nI sz), .int (nI A), .int cl, .int (nI F), .int P, .ref e0])), (d1, .inl (D.1 101, 150, .inl (fun k => nI (t k)))), (e0, .inr (6, [.int (W 0), .ref e1, .ref e2, .ref e3, .ref e4, .int ev2])), (e1, .inl (D.1 100, 16, .inl (sE W))), (e2, .inl (D.1 100, 8, .inl (sB W))), (e3, .inl (D.1 100, 5, .inl (sT W))), (e4, .inl (D.1 100, 64, .inl (sG W)))] : va_W)) := by
  refine Ct.ofG (by decide) (Nat.le_of_ble_eq_true rfl) ?_
  intro X hX
  have hX : CX X l D RX3 "readPair" cX3_readPair 6 none 2 47 0 0 := hX
  show G X (QM X 0 0 (fun (rv : Option Value) (u : Nat × Nat × Int32 × (Nat → Int32) × Int32) => match u with | (A, F, P, W, ev2) => rv = none ∧ (fltP 0 fa F P A sz (qSemi t sz (qPair t sz v (t s - 97) (t (s + 1) - 97) s pa)) (fun a => A = a.1 ∧ W = a.2))) (fun (u : Nat × Nat × Int32 × (Nat → Int32) × Int32) => match u with | (A, F, P, W, ev2) => ([(d0, .inr (4, [.ref d1, .int (nI sz), .int (nI A), .int cl, .int (nI F), .int P, .ref e0])), (d1, .inl (D.1 101, 150, .inl (fun k => nI (t k)))), (e0, .inr (6, [.int (W 0), .ref e1, .ref e2, .ref e3, .ref e4, .int ev2])), (e1, .inl (D.1 100, 16, .inl (sE W))), (e2, .inl (D.1 100, 8, .inl (sB W))), (e3, .inl (D.1 100, 5, .inl (sT W))), (e4, .inl (D.1 100, 64, .inl (sG W)))] : va_W))) [(d0, .inr (4, [.ref d1, .int (nI sz), .int (nI pa), .int cl, .int (nI 0), .int fa, .ref e0])), (d1, .inl (D.1 101, 150, .inl (fun k => nI (t k)))), (e0, .inr (6, [.int (v 0), .ref e1, .ref e2, .ref e3, .ref e4, .int ev])), (e1, .inl (D.1 100, 16, .inl (sE v))), (e2, .inl (D.1 100, 8, .inl (sB v))), (e3, .inl (D.1 100, 5, .inl (sT v))), (e4, .inl (D.1 100, 64, .inl (sG v)))] 0 0 0 [some (.ref d0), some (.int (nI s)), none, none, none, none] []
  generalize hQ : QM X 0 0 (fun (rv : Option Value) (u : Nat × Nat × Int32 × (Nat → Int32) × Int32) => match u with | (A, F, P, W, ev2) => rv = none ∧ (fltP 0 fa F P A sz (qSemi t sz (qPair t sz v (t s - 97) (t (s + 1) - 97) s pa)) (fun a => A = a.1 ∧ W = a.2))) (fun (u : Nat × Nat × Int32 × (Nat → Int32) × Int32) => match u with | (A, F, P, W, ev2) => ([(d0, .inr (4, [.ref d1, .int (nI sz), .int (nI A), .int cl, .int (nI F), .int P, .ref e0])), (d1, .inl (D.1 101, 150, .inl (fun k => nI (t k)))), (e0, .inr (6, [.int (W 0), .ref e1, .ref e2, .ref e3, .ref e4, .int ev2])), (e1, .inl (D.1 100, 16, .inl (sE W))), (e2, .inl (D.1 100, 8, .inl (sB W))), (e3, .inl (D.1 100, 5, .inl (sT W))), (e4, .inl (D.1 100, 64, .inl (sG W)))] : va_W)) = Q
  refine g_aload_n hX dX3_readPair_0 rfl ?_
  refine g_getf hX dX3_readPair_1 fk_X3_9 0 rfl rfl ?_
  refine g_iload_n hX dX3_readPair_4 rfl ?_
  refine g_cald hX dX3_readPair_5 1 rfl (by decide) (by omega) ?_
  refine g_top (v' := nI (t s)) rfl ?_
  have hct5 := ht s
  refine g_bipush hX dX3_readPair_6 kn_b_97 ?_
  refine g_isubN hX dX3_readPair_8 (by omega) ?_
  refine g_istore_n (L' := [some (.ref d0), some (.int (nI s)), some (.int (nI ((t s) - 97))), none, none, none]) hX dX3_readPair_9 (by decide) rfl ?_
  refine g_aload_n hX dX3_readPair_10 rfl ?_
  refine g_getf hX dX3_readPair_11 fk_X3_9 0 rfl rfl ?_
  refine g_iload_n hX dX3_readPair_14 rfl ?_
  refine g_iconst hX dX3_readPair_15 kn_i_1 ?_
  refine g_iaddN hX dX3_readPair_16 ?_
  refine g_cald hX dX3_readPair_17 1 rfl (by decide) (by omega) ?_
  refine g_top (v' := nI (t (s + 1))) rfl ?_
  have hct17 := ht (s + 1)
  refine g_bipush hX dX3_readPair_18 kn_b_97 ?_
  refine g_isubN hX dX3_readPair_20 (by omega) ?_
  refine g_istore_n (L' := [some (.ref d0), some (.int (nI s)), some (.int (nI ((t s) - 97))), some (.int (nI ((t (s + 1)) - 97))), none, none]) hX dX3_readPair_21 (by decide) rfl ?_
  refine g_aload_n hX dX3_readPair_22 rfl ?_
  refine g_getf hX dX3_readPair_23 fk_X3_34 0 rfl rfl ?_
  refine g_iload_n hX dX3_readPair_26 rfl ?_
  refine g_iload_n hX dX3_readPair_27 rfl ?_
  refine g_callRi hX dX3_readPair_28 cw_X3_100 ct_X5_knowsBoth 2 6 [2] rfl rfl rfl rfl (by decide) rfl ⟨by decide, by decide⟩ (Nat.le_of_ble_eq_true rfl) (Nat.le_refl _) (Nat.le_refl _) ?_
  refine g_ifb_ne (tgt := 40) hX dX3_readPair_31 (by decide) (fun h31 => ?_) (fun h31 => ?_)
  · skip
    have hkk : (kn (v 0) (t s - 97) && kn (v 0) (t (s + 1) - 97)) = true := by rw [← isKn_n (j := (t s - 97)) (by omega), ← isKn_n (j := (t (s + 1) - 97)) (by omega)]; exact h31
    refine g_aload_n hX dX3_readPair_40 rfl ?_
    refine g_bipush hX dX3_readPair_41 kn_b_58 ?_
    refine g_call hX dX3_readPair_43 cw_X3_90 (ct_X3_pass  (by omega) (by first | with_reducible assumption | assumption) (by omega) (by omega) (by omega)) 0 4 [0, 1] rfl rfl rfl rfl (by decide) rfl (fun ⟨_, _, _⟩ => rfl) ⟨by decide, by decide⟩ (Nat.le_of_ble_eq_true rfl) ⟨Nat.le_refl _, Nat.le_refl _⟩ (fun v u hp => ?_)
    obtain ⟨A43, F43, P43⟩ := u
    obtain ⟨rfl, hs43⟩ := hp
    show G X Q [(d0, .inr (4, [.ref d1, .int (nI sz), .int (nI A43), .int cl, .int (nI F43), .int P43, .ref e0])), (d1, .inl (D.1 101, 150, .inl (fun k => nI (t k)))), (e0, .inr (6, [.int (v 0), .ref e1, .ref e2, .ref e3, .ref e4, .int ev])), (e1, .inl (D.1 100, 16, .inl (sE v))), (e2, .inl (D.1 100, 8, .inl (sB v))), (e3, .inl (D.1 100, 5, .inl (sT v))), (e4, .inl (D.1 100, 64, .inl (sG v)))] 0 0 46 [some (.ref d0), some (.int (nI s)), some (.int (nI ((t s) - 97))), some (.int (nI ((t (s + 1)) - 97))), none, none] []
    have hF43 : F43 < 100 := flt_F hs43 (by decide) (fun e he => qWant_F he)
    have hA43 := hs43.1
    have hA43b := sk_le (t := t) hA43
    refine g_aload_n hX dX3_readPair_46 rfl ?_
    refine g_callFi (ws' := [(d0, .inr (4, [.ref d1, .int (nI sz), .int (nI (if hereO t sz (sk t sz A43) = some 45 then sk t sz A43 + 1 else sk t sz A43)), .int cl, .int (nI F43), .int P43, .ref e0])), (d1, .inl (D.1 101, 150, .inl (fun k => nI (t k)))), (e0, .inr (6, [.int (v 0), .ref e1, .ref e2, .ref e3, .ref e4, .int ev])), (e1, .inl (D.1 100, 16, .inl (sE v))), (e2, .inl (D.1 100, 8, .inl (sB v))), (e3, .inl (D.1 100, 5, .inl (sT v))), (e4, .inl (D.1 100, 64, .inl (sG v)))]) hX dX3_readPair_47 cw_X3_104 (ct_X3_passMinus  (by omega) (by first | with_reducible assumption | assumption) (by omega)) 0 4 [0, 1] rfl rfl rfl rfl (by decide) rfl rfl ⟨by decide, by decide⟩ (Nat.le_of_ble_eq_true rfl) (Nat.le_refl _) (Nat.le_refl _) rfl ?_
    have hmp : mnP t sz A43 ≤ sz := mnP_le hA43
    refine g_istore (L' := [some (.ref d0), some (.int (nI s)), some (.int (nI ((t s) - 97))), some (.int (nI ((t (s + 1)) - 97))), some (.int (bI (decide (hereO t sz (sk t sz A43) = some 45)))), none]) hX dX3_readPair_50 (by decide) rfl ?_
    refine g_aload_n hX dX3_readPair_52 rfl ?_
    refine g_iconst hX dX3_readPair_53 kn_i_0 ?_
    refine g_bipush hX dX3_readPair_54 kn_b_20 ?_
    refine g_call hX dX3_readPair_56 cw_X3_108 (ct_X3_readNumber  (by omega) (by first | with_reducible assumption | assumption) hmp (by omega) (by omega) (by omega)) 0 4 [0, 1] rfl rfl rfl rfl (by decide) rfl (fun ⟨_, _, _, _⟩ => rfl) ⟨by decide, by decide⟩ (Nat.le_of_ble_eq_true rfl) ⟨Nat.le_refl _, Nat.le_refl _⟩ (fun v u hp => ?_)
    obtain ⟨V56, A56, F56, P56⟩ := u
    obtain ⟨rfl, hs56, hv56⟩ := hp
    show G X Q [(d0, .inr (4, [.ref d1, .int (nI sz), .int (nI A56), .int cl, .int (nI F56), .int P56, .ref e0])), (d1, .inl (D.1 101, 150, .inl (fun k => nI (t k)))), (e0, .inr (6, [.int (v 0), .ref e1, .ref e2, .ref e3, .ref e4, .int ev])), (e1, .inl (D.1 100, 16, .inl (sE v))), (e2, .inl (D.1 100, 8, .inl (sB v))), (e3, .inl (D.1 100, 5, .inl (sT v))), (e4, .inl (D.1 100, 64, .inl (sG v)))] 0 0 59 [some (.ref d0), some (.int (nI s)), some (.int (nI ((t s) - 97))), some (.int (nI ((t (s + 1)) - 97))), some (.int (bI (decide (hereO t sz (sk t sz A43) = some 45)))), none] [.int (nI V56)]
    have hF56 : F56 < 100 := flt_F hs56 hF43 (fun e he => qNum_F he)
    have hA56 := hs56.1
    refine g_istore (L' := [some (.ref d0), some (.int (nI s)), some (.int (nI ((t s) - 97))), some (.int (nI ((t (s + 1)) - 97))), some (.int (bI (decide (hereO t sz (sk t sz A43) = some 45)))), some (.int (nI V56))]) hX dX3_readPair_59 (by decide) rfl ?_
    refine g_aload_n hX dX3_readPair_61 rfl ?_
    refine g_bipush hX dX3_readPair_62 kn_b_59 ?_
    refine g_call hX dX3_readPair_64 cw_X3_90 (ct_X3_pass  (by omega) (by first | with_reducible assumption | assumption) (by omega) (by omega) (by omega)) 0 4 [0, 1] rfl rfl rfl rfl (by decide) rfl (fun ⟨_, _, _⟩ => rfl) ⟨by decide, by decide⟩ (Nat.le_of_ble_eq_true rfl) ⟨Nat.le_refl _, Nat.le_refl _⟩ (fun v u hp => ?_)
    obtain ⟨A64, F64, P64⟩ := u
    obtain ⟨rfl, hs64⟩ := hp
    show G X Q [(d0, .inr (4, [.ref d1, .int (nI sz), .int (nI A64), .int cl, .int (nI F64), .int P64, .ref e0])), (d1, .inl (D.1 101, 150, .inl (fun k => nI (t k)))), (e0, .inr (6, [.int (v 0), .ref e1, .ref e2, .ref e3, .ref e4, .int ev])), (e1, .inl (D.1 100, 16, .inl (sE v))), (e2, .inl (D.1 100, 8, .inl (sB v))), (e3, .inl (D.1 100, 5, .inl (sT v))), (e4, .inl (D.1 100, 64, .inl (sG v)))] 0 0 67 [some (.ref d0), some (.int (nI s)), some (.int (nI ((t s) - 97))), some (.int (nI ((t (s + 1)) - 97))), some (.int (bI (decide (hereO t sz (sk t sz A43) = some 45)))), some (.int (nI V56))] []
    have hF64 : F64 < 100 := flt_F hs64 hF56 (fun e he => qWant_F he)
    refine g_aload_n hX dX3_readPair_67 rfl ?_
    refine g_getf hX dX3_readPair_68 fk_X3_25 0 rfl rfl ?_
    refine g_ifN_ne (tgt := 96) hX dX3_readPair_71 (by decide) (by omega) (fun h71 => ?_) (fun h71 => ?_)
    · skip
      subst hQ
      exact g_vretU hX dX3_readPair_96 (A64, F64, P64, v, ev) (⟨rfl, flt_any (semi_seq (pr_num (w := v) (c := t s - 97) (d := t (s + 1) - 97) (fr := s) hkk hs43 hs56).1 hs64) h71⟩) rfl (Nat.le_refl _) (Nat.le_refl _)
    · skip
      have hV20 := (pr_num (w := v) (c := t s - 97) (d := t (s + 1) - 97) (fr := s) hkk hs43 hs56).2 (by rcases Nat.eq_zero_or_pos F56 with q | q; exact q; have := (hs64.2.1 (by omega)).1; omega)
      refine g_aload_n hX dX3_readPair_74 rfl ?_
      refine g_getf hX dX3_readPair_75 fk_X3_34 0 rfl rfl ?_
      refine g_iload_n hX dX3_readPair_78 rfl ?_
      refine g_iload_n hX dX3_readPair_79 rfl ?_
      refine g_iload hX dX3_readPair_80 rfl ?_
      refine g_ifb_eq (tgt := 91) hX dX3_readPair_82 (by decide) (fun h82 => ?_) (fun h82 => ?_)
      · skip
        refine g_iload hX dX3_readPair_91 rfl ?_
        refine g_callFv (ws' := [(d0, .inr (4, [.ref d1, .int (nI sz), .int (nI A64), .int cl, .int (nI F64), .int P64, .ref e0])), (d1, .inl (D.1 101, 150, .inl (fun k => nI (t k)))), (e0, .inr (6, [.int ((upd v (94 + 8 * ((t s) - 97) + ((t (s + 1)) - 97)) (nI (100 + V56))) 0), .ref e1, .ref e2, .ref e3, .ref e4, .int (ev + nI 1)])), (e1, .inl (D.1 100, 16, .inl (sE (upd v (94 + 8 * ((t s) - 97) + ((t (s + 1)) - 97)) (nI (100 + V56)))))), (e2, .inl (D.1 100, 8, .inl (sB (upd v (94 + 8 * ((t s) - 97) + ((t (s + 1)) - 97)) (nI (100 + V56)))))), (e3, .inl (D.1 100, 5, .inl (sT (upd v (94 + 8 * ((t s) - 97) + ((t (s + 1)) - 97)) (nI (100 + V56)))))), (e4, .inl (D.1 100, 64, .inl (sG (upd v (94 + 8 * ((t s) - 97) + ((t (s + 1)) - 97)) (nI (100 + V56))))))]) hX dX3_readPair_93 cw_X3_112 (ct_X5_setGap (x := nI (100 + V56)) (gG_add hV20) (by omega) (by omega)) 2 6 [2, 3, 4, 5, 6] rfl rfl rfl rfl (by decide) rfl rfl ⟨by decide, by decide⟩ (Nat.le_of_ble_eq_true rfl) (Nat.le_refl _) (Nat.le_refl _) rfl ?_
        subst hQ
        exact g_vretU hX dX3_readPair_96 (A64, F64, P64, (upd v (94 + 8 * (t s - 97) + (t (s + 1) - 97)) (nI (100 + V56))), (ev + nI 1)) (⟨rfl, by have h := (semi_seq (pr_num (w := v) (c := t s - 97) (d := t (s + 1) - 97) (fr := s) hkk hs43 hs56).1 hs64); rw [if_neg (of_decide_eq_false h82)] at h; exact h⟩) rfl (Nat.le_refl _) (Nat.le_refl _)
      · skip
        refine g_iload hX dX3_readPair_85 rfl ?_
        refine g_ineg hX dX3_readPair_87 ?_
        refine g_goto (tgt := 93) hX dX3_readPair_88 (by decide) ?_
        refine g_callFv (ws' := [(d0, .inr (4, [.ref d1, .int (nI sz), .int (nI A64), .int cl, .int (nI F64), .int P64, .ref e0])), (d1, .inl (D.1 101, 150, .inl (fun k => nI (t k)))), (e0, .inr (6, [.int ((upd v (94 + 8 * ((t s) - 97) + ((t (s + 1)) - 97)) (nI (100 - V56))) 0), .ref e1, .ref e2, .ref e3, .ref e4, .int (ev + nI 1)])), (e1, .inl (D.1 100, 16, .inl (sE (upd v (94 + 8 * ((t s) - 97) + ((t (s + 1)) - 97)) (nI (100 - V56)))))), (e2, .inl (D.1 100, 8, .inl (sB (upd v (94 + 8 * ((t s) - 97) + ((t (s + 1)) - 97)) (nI (100 - V56)))))), (e3, .inl (D.1 100, 5, .inl (sT (upd v (94 + 8 * ((t s) - 97) + ((t (s + 1)) - 97)) (nI (100 - V56)))))), (e4, .inl (D.1 100, 64, .inl (sG (upd v (94 + 8 * ((t s) - 97) + ((t (s + 1)) - 97)) (nI (100 - V56))))))]) hX dX3_readPair_93 cw_X3_112 (ct_X5_setGap (x := nI (100 - V56)) (gG_neg hV20) (by omega) (by omega)) 2 6 [2, 3, 4, 5, 6] rfl rfl rfl rfl (by decide) rfl rfl ⟨by decide, by decide⟩ (Nat.le_of_ble_eq_true rfl) (Nat.le_refl _) (Nat.le_refl _) rfl ?_
        subst hQ
        exact g_vretU hX dX3_readPair_96 (A64, F64, P64, (upd v (94 + 8 * (t s - 97) + (t (s + 1) - 97)) (nI (100 - V56))), (ev + nI 1)) (⟨rfl, by have h := (semi_seq (pr_num (w := v) (c := t s - 97) (d := t (s + 1) - 97) (fr := s) hkk hs43 hs56).1 hs64); rw [if_pos (of_decide_eq_true h82)] at h; exact h⟩) rfl (Nat.le_refl _) (Nat.le_refl _)
  · skip
    refine g_aload_n hX dX3_readPair_34 rfl ?_
    refine g_iconst hX dX3_readPair_35 kn_i_3 ?_
    refine g_iload_n hX dX3_readPair_36 rfl ?_
    refine g_call hX dX3_readPair_37 cw_X3_83 (ct_X3_fail  (by omega)) 0 4 [0] rfl rfl rfl rfl (by decide) rfl (fun ⟨_, _⟩ => rfl) ⟨by decide, by decide⟩ (Nat.le_of_ble_eq_true rfl) ⟨Nat.le_refl _, Nat.le_refl _⟩ (fun v u hp => ?_)
    obtain ⟨F37, P37⟩ := u
    obtain ⟨rfl, hs37⟩ := hp
    show G X Q [(d0, .inr (4, [.ref d1, .int (nI sz), .int (nI pa), .int cl, .int (nI F37), .int P37, .ref e0])), (d1, .inl (D.1 101, 150, .inl (fun k => nI (t k)))), (e0, .inr (6, [.int (v 0), .ref e1, .ref e2, .ref e3, .ref e4, .int ev])), (e1, .inl (D.1 100, 16, .inl (sE v))), (e2, .inl (D.1 100, 8, .inl (sB v))), (e3, .inl (D.1 100, 5, .inl (sT v))), (e4, .inl (D.1 100, 64, .inl (sG v)))] 0 0 40 [some (.ref d0), some (.int (nI s)), some (.int (nI ((t s) - 97))), some (.int (nI ((t (s + 1)) - 97))), none, none] []
    have hkk : (kn (v 0) (t s - 97) && kn (v 0) (t (s + 1) - 97)) = false := by rw [← isKn_n (j := (t s - 97)) (by omega), ← isKn_n (j := (t (s + 1) - 97)) (by omega)]; exact h31
    have hf3 := hs37.1 rfl
    have hF37 : F37 < 100 := by omega
    have hy : fltP 0 fa F37 P37 pa sz (qSemi t sz (qPair t sz v (t s - 97) (t (s + 1) - 97) s pa)) (fun _ => True) := flt_fail hpa (semi_inl (qPair_no hkk)) (by decide) hs37
    refine g_aload_n hX dX3_readPair_40 rfl ?_
    refine g_bipush hX dX3_readPair_41 kn_b_58 ?_
    refine g_call hX dX3_readPair_43 cw_X3_90 (ct_X3_pass  (by omega) (by first | with_reducible assumption | assumption) (by omega) (by omega) (by omega)) 0 4 [0, 1] rfl rfl rfl rfl (by decide) rfl (fun ⟨_, _, _⟩ => rfl) ⟨by decide, by decide⟩ (Nat.le_of_ble_eq_true rfl) ⟨Nat.le_refl _, Nat.le_refl _⟩ (fun v u hp => ?_)
    obtain ⟨A43, F43, P43⟩ := u
    obtain ⟨rfl, hs43⟩ := hp
    show G X Q [(d0, .inr (4, [.ref d1, .int (nI sz), .int (nI A43), .int cl, .int (nI F43), .int P43, .ref e0])), (d1, .inl (D.1 101, 150, .inl (fun k => nI (t k)))), (e0, .inr (6, [.int (v 0), .ref e1, .ref e2, .ref e3, .ref e4, .int ev])), (e1, .inl (D.1 100, 16, .inl (sE v))), (e2, .inl (D.1 100, 8, .inl (sB v))), (e3, .inl (D.1 100, 5, .inl (sT v))), (e4, .inl (D.1 100, 64, .inl (sG v)))] 0 0 46 [some (.ref d0), some (.int (nI s)), some (.int (nI ((t s) - 97))), some (.int (nI ((t (s + 1)) - 97))), none, none] []
    have hF43 : F43 < 100 := flt_F hs43 hF37 (fun e he => qWant_F he)
    have hA43 := hs43.1
    have hA43b := sk_le (t := t) hA43
    refine g_aload_n hX dX3_readPair_46 rfl ?_
    refine g_callFi (ws' := [(d0, .inr (4, [.ref d1, .int (nI sz), .int (nI (if hereO t sz (sk t sz A43) = some 45 then sk t sz A43 + 1 else sk t sz A43)), .int cl, .int (nI F43), .int P43, .ref e0])), (d1, .inl (D.1 101, 150, .inl (fun k => nI (t k)))), (e0, .inr (6, [.int (v 0), .ref e1, .ref e2, .ref e3, .ref e4, .int ev])), (e1, .inl (D.1 100, 16, .inl (sE v))), (e2, .inl (D.1 100, 8, .inl (sB v))), (e3, .inl (D.1 100, 5, .inl (sT v))), (e4, .inl (D.1 100, 64, .inl (sG v)))]) hX dX3_readPair_47 cw_X3_104 (ct_X3_passMinus  (by omega) (by first | with_reducible assumption | assumption) (by omega)) 0 4 [0, 1] rfl rfl rfl rfl (by decide) rfl rfl ⟨by decide, by decide⟩ (Nat.le_of_ble_eq_true rfl) (Nat.le_refl _) (Nat.le_refl _) rfl ?_
    have hmp : mnP t sz A43 ≤ sz := mnP_le hA43
    refine g_istore (L' := [some (.ref d0), some (.int (nI s)), some (.int (nI ((t s) - 97))), some (.int (nI ((t (s + 1)) - 97))), some (.int (bI (decide (hereO t sz (sk t sz A43) = some 45)))), none]) hX dX3_readPair_50 (by decide) rfl ?_
    refine g_aload_n hX dX3_readPair_52 rfl ?_
    refine g_iconst hX dX3_readPair_53 kn_i_0 ?_
    refine g_bipush hX dX3_readPair_54 kn_b_20 ?_
    refine g_call hX dX3_readPair_56 cw_X3_108 (ct_X3_readNumber  (by omega) (by first | with_reducible assumption | assumption) hmp (by omega) (by omega) (by omega)) 0 4 [0, 1] rfl rfl rfl rfl (by decide) rfl (fun ⟨_, _, _, _⟩ => rfl) ⟨by decide, by decide⟩ (Nat.le_of_ble_eq_true rfl) ⟨Nat.le_refl _, Nat.le_refl _⟩ (fun v u hp => ?_)
    obtain ⟨V56, A56, F56, P56⟩ := u
    obtain ⟨rfl, hs56, hv56⟩ := hp
    show G X Q [(d0, .inr (4, [.ref d1, .int (nI sz), .int (nI A56), .int cl, .int (nI F56), .int P56, .ref e0])), (d1, .inl (D.1 101, 150, .inl (fun k => nI (t k)))), (e0, .inr (6, [.int (v 0), .ref e1, .ref e2, .ref e3, .ref e4, .int ev])), (e1, .inl (D.1 100, 16, .inl (sE v))), (e2, .inl (D.1 100, 8, .inl (sB v))), (e3, .inl (D.1 100, 5, .inl (sT v))), (e4, .inl (D.1 100, 64, .inl (sG v)))] 0 0 59 [some (.ref d0), some (.int (nI s)), some (.int (nI ((t s) - 97))), some (.int (nI ((t (s + 1)) - 97))), some (.int (bI (decide (hereO t sz (sk t sz A43) = some 45)))), none] [.int (nI V56)]
    have hF56 : F56 < 100 := flt_F hs56 hF43 (fun e he => qNum_F he)
    have hA56 := hs56.1
    refine g_istore (L' := [some (.ref d0), some (.int (nI s)), some (.int (nI ((t s) - 97))), some (.int (nI ((t (s + 1)) - 97))), some (.int (bI (decide (hereO t sz (sk t sz A43) = some 45)))), some (.int (nI V56))]) hX dX3_readPair_59 (by decide) rfl ?_
    refine g_aload_n hX dX3_readPair_61 rfl ?_
    refine g_bipush hX dX3_readPair_62 kn_b_59 ?_
    refine g_call hX dX3_readPair_64 cw_X3_90 (ct_X3_pass  (by omega) (by first | with_reducible assumption | assumption) (by omega) (by omega) (by omega)) 0 4 [0, 1] rfl rfl rfl rfl (by decide) rfl (fun ⟨_, _, _⟩ => rfl) ⟨by decide, by decide⟩ (Nat.le_of_ble_eq_true rfl) ⟨Nat.le_refl _, Nat.le_refl _⟩ (fun v u hp => ?_)
    obtain ⟨A64, F64, P64⟩ := u
    obtain ⟨rfl, hs64⟩ := hp
    show G X Q [(d0, .inr (4, [.ref d1, .int (nI sz), .int (nI A64), .int cl, .int (nI F64), .int P64, .ref e0])), (d1, .inl (D.1 101, 150, .inl (fun k => nI (t k)))), (e0, .inr (6, [.int (v 0), .ref e1, .ref e2, .ref e3, .ref e4, .int ev])), (e1, .inl (D.1 100, 16, .inl (sE v))), (e2, .inl (D.1 100, 8, .inl (sB v))), (e3, .inl (D.1 100, 5, .inl (sT v))), (e4, .inl (D.1 100, 64, .inl (sG v)))] 0 0 67 [some (.ref d0), some (.int (nI s)), some (.int (nI ((t s) - 97))), some (.int (nI ((t (s + 1)) - 97))), some (.int (bI (decide (hereO t sz (sk t sz A43) = some 45)))), some (.int (nI V56))] []
    have hF64 : F64 < 100 := flt_F hs64 hF56 (fun e he => qWant_F he)
    have hz1 := flt_keep hy (by omega) hs43
    have hz2 := flt_keep hz1.1 hz1.2 hs56
    have hz := flt_keep hz2.1 hz2.2 hs64
    refine g_aload_n hX dX3_readPair_67 rfl ?_
    refine g_getf hX dX3_readPair_68 fk_X3_25 0 rfl rfl ?_
    refine g_ifN_ne (tgt := 96) hX dX3_readPair_71 (by decide) (by omega) (fun h71 => ?_) (fun h71 => ?_)
    · skip
      subst hQ
      exact g_vretU hX dX3_readPair_96 (A64, F64, P64, v, ev) (⟨rfl, flt_any (ok := fun _ => True) hz.1 hz.2⟩) rfl (Nat.le_refl _) (Nat.le_refl _)
    · skip
      exact absurd h71 hz.2
