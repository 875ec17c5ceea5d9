set_option maxRecDepth 100000 in
set_option maxHeartbeats 4000000 in
theorem ct_X3_skipBlanks {l : Launch} {D : va_G} {d0 d1 e0 sz pa fl : Nat} {cl fa : Int32} {t : Nat → Nat} (hsz : sz ≤ 150) (ht : ∀ k, t k < 256) (hpa : pa ≤ sz) : Cf l D yX3_skipBlanks cX3_skipBlanks 1 none 0 0 [.ref d0] [(d0, .inr (4, [.ref d1, .int (nI sz), .int (nI pa), .int cl, .int (nI fl), .int fa, .ref e0])), (d1, .inl (D.1 101, 150, .inl (fun k => nI (t k))))] none [(d0, .inr (4, [.ref d1, .int (nI sz), .int (nI (sk t sz pa)), .int cl, .int (nI fl), .int fa, .ref e0])), (d1, .inl (D.1 101, 150, .inl (fun k => nI (t k))))] := by
  refine Ct.ofG (by decide) (Nat.le_of_ble_eq_true rfl) ?_
  intro X hX
  have hX : CX X l D RX3 "skipBlanks" cX3_skipBlanks 1 none 0 0 0 0 := hX
  show G X (QF X none [(d0, .inr (4, [.ref d1, .int (nI sz), .int (nI (sk t sz pa)), .int cl, .int (nI fl), .int fa, .ref e0])), (d1, .inl (D.1 101, 150, .inl (fun k => nI (t k))))]) [(d0, .inr (4, [.ref d1, .int (nI sz), .int (nI pa), .int cl, .int (nI fl), .int fa, .ref e0])), (d1, .inl (D.1 101, 150, .inl (fun k => nI (t k))))] 0 0 0 [some (.ref d0)] []
  generalize hQ : QF X none [(d0, .inr (4, [.ref d1, .int (nI sz), .int (nI (sk t sz pa)), .int cl, .int (nI fl), .int fa, .ref e0])), (d1, .inl (D.1 101, 150, .inl (fun k => nI (t k))))] = Q
  have loop0 : ∀ p : Nat, p ≤ sz → (sk t sz pa = sk t sz p) → G X Q [(d0, .inr (4, [.ref d1, .int (nI sz), .int (nI p), .int cl, .int (nI fl), .int fa, .ref e0])), (d1, .inl (D.1 101, 150, .inl (fun k => nI (t k))))] 0 0 0 [some (.ref d0)] [] := by
    refine loopN sz (fun p hh0 ih0 => ?_)
    intro hr
    refine g_aload_n hX dX3_skipBlanks_0 rfl ?_
    refine g_getf hX dX3_skipBlanks_1 fk_X3_19 0 rfl rfl ?_
    refine g_aload_n hX dX3_skipBlanks_4 rfl ?_
    refine g_getf hX dX3_skipBlanks_5 fk_X3_15 0 rfl rfl ?_
    refine g_icmpN_ge (tgt := 38) hX dX3_skipBlanks_8 (by decide) (by omega) (by omega) (fun h8 => ?_) (fun h8 => ?_)
    · skip
      have hp : ¬ hereO t sz p = some 32 := hereO_no1 h8
      subst hQ
      exact g_vret hX dX3_skipBlanks_38 rfl (by rw [hr, sk_stop hp]) rfl rfl
    · skip
      refine g_aload_n hX dX3_skipBlanks_11 rfl ?_
      refine g_getf hX dX3_skipBlanks_12 fk_X3_9 0 rfl rfl ?_
      refine g_aload_n hX dX3_skipBlanks_15 rfl ?_
      refine g_getf hX dX3_skipBlanks_16 fk_X3_19 0 rfl rfl ?_
      refine g_cald hX dX3_skipBlanks_19 1 rfl (by decide) (by omega) ?_
      refine g_top (v' := nI (t p)) rfl ?_
      have hct19 := ht p
      refine g_bipush hX dX3_skipBlanks_20 kn_b_32 ?_
      refine g_icmpN_ne (tgt := 38) hX dX3_skipBlanks_22 (by decide) (by omega) (by omega) (fun h22 => ?_) (fun h22 => ?_)
      · skip
        have hp : ¬ hereO t sz p = some 32 := hereO_no2 h22
        subst hQ
        exact g_vret hX dX3_skipBlanks_38 rfl (by rw [hr, sk_stop hp]) rfl rfl
      · skip
        have hp : hereO t sz p = some 32 := hereO_is h8 h22
        refine g_aload_n hX dX3_skipBlanks_25 rfl ?_
        refine g_dup hX dX3_skipBlanks_26 rfl ?_
        refine g_getf hX dX3_skipBlanks_27 fk_X3_19 0 rfl rfl ?_
        refine g_iconst hX dX3_skipBlanks_30 kn_i_1 ?_
        refine g_iaddN hX dX3_skipBlanks_31 ?_
        refine g_puti (ws' := [(d0, .inr (4, [.ref d1, .int (nI sz), .int (nI (p + 1)), .int cl, .int (nI fl), .int fa, .ref e0])), (d1, .inl (D.1 101, 150, .inl (fun k => nI (t k))))]) hX dX3_skipBlanks_32 fp_X3_19 0 rfl (Nat.le_of_ble_eq_true rfl) rfl ?_
        refine g_goto (tgt := 0) hX dX3_skipBlanks_35 (by decide) ?_
        exact g_fin (ih0 (by omega) (hr.trans (sk_step hp))) (rfl) rfl ⟨rfl, trivial⟩
  exact g_fin (loop0 pa (by omega) rfl) (rfl) rfl ⟨rfl, trivial⟩
set_option maxRecDepth 100000 in
set_option maxHeartbeats 4000000 in
theorem ct_X3_isFigure {l : Launch} {D : va_G} {d0 d1 e0 sz pa fl : Nat} {cl fa : Int32} {t : Nat → Nat} {p : Nat} (hsz : sz ≤ 150) (ht : ∀ k, t k < 256) (hp : p ≤ 200) : Cf l D yX3_isFigure cX3_isFigure 2 (some .boolean) 0 0 [.ref d0, .int (nI p)] [(d0, .inr (4, [.ref d1, .int (nI sz), .int (nI pa), .int cl, .int (nI fl), .int fa, .ref e0])), (d1, .inl (D.1 101, 150, .inl (fun k => nI (t k))))] (some (.int (bI (figO (hereO t sz p))))) [(d0, .inr (4, [.ref d1, .int (nI sz), .int (nI pa), .int cl, .int (nI fl), .int fa, .ref e0])), (d1, .inl (D.1 101, 150, .inl (fun k => nI (t k))))] := by
  refine Ct.ofG (by decide) (Nat.le_of_ble_eq_true rfl) ?_
  intro X hX
  have hX : CX X l D RX3 "isFigure" cX3_isFigure 2 (some .boolean) 0 0 0 0 := hX
  show G X (QF X (some (.int (bI (figO (hereO t sz p))))) [(d0, .inr (4, [.ref d1, .int (nI sz), .int (nI pa), .int cl, .int (nI fl), .int fa, .ref e0])), (d1, .inl (D.1 101, 150, .inl (fun k => nI (t k))))]) [(d0, .inr (4, [.ref d1, .int (nI sz), .int (nI pa), .int cl, .int (nI fl), .int fa, .ref e0])), (d1, .inl (D.1 101, 150, .inl (fun k => nI (t k))))] 0 0 0 [some (.ref d0), some (.int (nI p))] []
  generalize hQ : QF X (some (.int (bI (figO (hereO t sz p))))) [(d0, .inr (4, [.ref d1, .int (nI sz), .int (nI pa), .int cl, .int (nI fl), .int fa, .ref e0])), (d1, .inl (D.1 101, 150, .inl (fun k => nI (t k))))] = Q
  refine g_iload_n hX dX3_isFigure_0 rfl ?_
  refine g_aload_n hX dX3_isFigure_1 rfl ?_
  refine g_getf hX dX3_isFigure_2 fk_X3_15 0 rfl rfl ?_
  refine g_icmpN_ge (tgt := 34) hX dX3_isFigure_5 (by decide) (by omega) (by omega) (fun h5 => ?_) (fun h5 => ?_)
  · skip
    refine g_iconst hX dX3_isFigure_34 kn_i_0 ?_
    subst hQ
    exact g_zret false hX dX3_isFigure_35 (by decide) (bR (fg_out h5)) (rfl) rfl rfl
  · skip
    refine g_aload_n hX dX3_isFigure_8 rfl ?_
    refine g_getf hX dX3_isFigure_9 fk_X3_9 0 rfl rfl ?_
    refine g_iload_n hX dX3_isFigure_12 rfl ?_
    refine g_cald hX dX3_isFigure_13 1 rfl (by decide) (by omega) ?_
    refine g_top (v' := nI (t p)) rfl ?_
    have hct13 := ht p
    refine g_bipush hX dX3_isFigure_14 kn_b_48 ?_
    refine g_icmpN_lt (tgt := 34) hX dX3_isFigure_16 (by decide) (by omega) (by omega) (fun h16 => ?_) (fun h16 => ?_)
    · skip
      refine g_iconst hX dX3_isFigure_34 kn_i_0 ?_
      subst hQ
      exact g_zret false hX dX3_isFigure_35 (by decide) (bR ((fg_in h5).trans (by rw [decide_eq_false (show ¬ 48 ≤ t p by omega)]; rfl))) (rfl) rfl rfl
    · skip
      refine g_aload_n hX dX3_isFigure_19 rfl ?_
      refine g_getf hX dX3_isFigure_20 fk_X3_9 0 rfl rfl ?_
      refine g_iload_n hX dX3_isFigure_23 rfl ?_
      refine g_cald hX dX3_isFigure_24 1 rfl (by decide) (by omega) ?_
      refine g_top (v' := nI (t p)) rfl ?_
      have hct24 := ht p
      refine g_bipush hX dX3_isFigure_25 kn_b_57 ?_
      refine g_icmpN_gt (tgt := 34) hX dX3_isFigure_27 (by decide) (by omega) (by omega) (fun h27 => ?_) (fun h27 => ?_)
      · skip
        refine g_iconst hX dX3_isFigure_34 kn_i_0 ?_
        subst hQ
        exact g_zret false hX dX3_isFigure_35 (by decide) (bR ((fg_in h5).trans (by rw [decide_eq_false (show ¬ t p ≤ 57 by omega)]; simp))) (rfl) rfl rfl
      · skip
        refine g_iconst hX dX3_isFigure_30 kn_i_1 ?_
        refine g_goto (tgt := 35) hX dX3_isFigure_31 (by decide) ?_
        subst hQ
        exact g_zret true hX dX3_isFigure_35 (by decide) (bR ((fg_in h5).trans (by rw [decide_eq_true (show 48 ≤ t p by omega), decide_eq_true (show t p ≤ 57 by omega)]; rfl))) (rfl) rfl rfl
set_option maxRecDepth 100000 in
set_option maxHeartbeats 4000000 in
theorem ct_X3_isLetter {l : Launch} {D : va_G} {d0 d1 e0 sz pa fl : Nat} {cl fa : Int32} {t : Nat → Nat} {p : Nat} (hsz : sz ≤ 150) (ht : ∀ k, t k < 256) (hp : p ≤ 200) : Cf l D yX3_isLetter cX3_isLetter 2 (some .boolean) 0 0 [.ref d0, .int (nI p)] [(d0, .inr (4, [.ref d1, .int (nI sz), .int (nI pa), .int cl, .int (nI fl), .int fa, .ref e0])), (d1, .inl (D.1 101, 150, .inl (fun k => nI (t k))))] (some (.int (bI (letB8 t sz p)))) [(d0, .inr (4, [.ref d1, .int (nI sz), .int (nI pa), .int cl, .int (nI fl), .int fa, .ref e0])), (d1, .inl (D.1 101, 150, .inl (fun k => nI (t k))))] := by
  refine Ct.ofG (by decide) (Nat.le_of_ble_eq_true rfl) ?_
  intro X hX
  have hX : CX X l D RX3 "isLetter" cX3_isLetter 2 (some .boolean) 0 0 0 0 := hX
  show G X (QF X (some (.int (bI (letB8 t sz p)))) [(d0, .inr (4, [.ref d1, .int (nI sz), .int (nI pa), .int cl, .int (nI fl), .int fa, .ref e0])), (d1, .inl (D.1 101, 150, .inl (fun k => nI (t k))))]) [(d0, .inr (4, [.ref d1, .int (nI sz), .int (nI pa), .int cl, .int (nI fl), .int fa, .ref e0])), (d1, .inl (D.1 101, 150, .inl (fun k => nI (t k))))] 0 0 0 [some (.ref d0), some (.int (nI p))] []
  generalize hQ : QF X (some (.int (bI (letB8 t sz p)))) [(d0, .inr (4, [.ref d1, .int (nI sz), .int (nI pa), .int cl, .int (nI fl), .int fa, .ref e0])), (d1, .inl (D.1 101, 150, .inl (fun k => nI (t k))))] = Q
  refine g_iload_n hX dX3_isLetter_0 rfl ?_
  refine g_aload_n hX dX3_isLetter_1 rfl ?_
  refine g_getf hX dX3_isLetter_2 fk_X3_15 0 rfl rfl ?_
  refine g_icmpN_ge (tgt := 34) hX dX3_isLetter_5 (by decide) (by omega) (by omega) (fun h5 => ?_) (fun h5 => ?_)
  · skip
    refine g_iconst hX dX3_isLetter_34 kn_i_0 ?_
    subst hQ
    exact g_zret false hX dX3_isLetter_35 (by decide) (bR (by unfold letB8; simp; omega)) (rfl) rfl rfl
  · skip
    refine g_aload_n hX dX3_isLetter_8 rfl ?_
    refine g_getf hX dX3_isLetter_9 fk_X3_9 0 rfl rfl ?_
    refine g_iload_n hX dX3_isLetter_12 rfl ?_
    refine g_cald hX dX3_isLetter_13 1 rfl (by decide) (by omega) ?_
    refine g_top (v' := nI (t p)) rfl ?_
    have hct13 := ht p
    refine g_bipush hX dX3_isLetter_14 kn_b_97 ?_
    refine g_icmpN_lt (tgt := 34) hX dX3_isLetter_16 (by decide) (by omega) (by omega) (fun h16 => ?_) (fun h16 => ?_)
    · skip
      refine g_iconst hX dX3_isLetter_34 kn_i_0 ?_
      subst hQ
      exact g_zret false hX dX3_isLetter_35 (by decide) (bR (by unfold letB8; simp; omega)) (rfl) rfl rfl
    · skip
      refine g_aload_n hX dX3_isLetter_19 rfl ?_
      refine g_getf hX dX3_isLetter_20 fk_X3_9 0 rfl rfl ?_
      refine g_iload_n hX dX3_isLetter_23 rfl ?_
      refine g_cald hX dX3_isLetter_24 1 rfl (by decide) (by omega) ?_
      refine g_top (v' := nI (t p)) rfl ?_
      have hct24 := ht p
      refine g_bipush hX dX3_isLetter_25 kn_b_105 ?_
      refine g_icmpN_ge (tgt := 34) hX dX3_isLetter_27 (by decide) (by omega) (by omega) (fun h27 => ?_) (fun h27 => ?_)
      · skip
        refine g_iconst hX dX3_isLetter_34 kn_i_0 ?_
        subst hQ
        exact g_zret false hX dX3_isLetter_35 (by decide) (bR (by unfold letB8; simp; omega)) (rfl) rfl rfl
      · skip
        refine g_iconst hX dX3_isLetter_30 kn_i_1 ?_
        refine g_goto (tgt := 35) hX dX3_isLetter_31 (by decide) ?_
        subst hQ
        exact g_zret true hX dX3_isLetter_35 (by decide) (bR (by unfold letB8; simp; omega)) (rfl) rfl rfl
set_option maxRecDepth 100000 in
set_option maxHeartbeats 4000000 in
theorem ct_X3_fail {l : Launch} {D : va_G} {d0 d1 e0 sz pa fl : Nat} {cl fa : Int32}  {n p : Nat} (hfl : fl < 100) : Ct (S := Nat × Int32) l D yX3_fail cX3_fail 3 none 0 0 0 0 [.ref d0, .int (nI n), .int (nI p)] [(d0, .inr (4, [.ref d1, .int (nI sz), .int (nI pa), .int cl, .int (nI fl), .int fa, .ref e0]))] (fun (rv : Option Value) (u : Nat × Int32) => match u with | (F, P) => rv = none ∧ ((fl = 0 → F = n ∧ P = nI p) ∧ (¬ fl = 0 → F = fl ∧ P = fa))) (fun (u : Nat × Int32) => match u with | (F, P) => ([(d0, .inr (4, [.ref d1, .int (nI sz), .int (nI pa), .int cl, .int (nI F), .int P, .ref e0]))] : va_W)) := by
  refine Ct.ofG (by decide) (Nat.le_of_ble_eq_true rfl) ?_
  intro X hX
  have hX : CX X l D RX3 "fail" cX3_fail 3 none 0 0 0 0 := hX
  show G X (QM X 0 0 (fun (rv : Option Value) (u : Nat × Int32) => match u with | (F, P) => rv = none ∧ ((fl = 0 → F = n ∧ P = nI p) ∧ (¬ fl = 0 → F = fl ∧ P = fa))) (fun (u : Nat × Int32) => match u with | (F, P) => ([(d0, .inr (4, [.ref d1, .int (nI sz), .int (nI pa), .int cl, .int (nI F), .int P, .ref e0]))] : va_W))) [(d0, .inr (4, [.ref d1, .int (nI sz), .int (nI pa), .int cl, .int (nI fl), .int fa, .ref e0]))] 0 0 0 [some (.ref d0), some (.int (nI n)), some (.int (nI p))] []
  generalize hQ : QM X 0 0 (fun (rv : Option Value) (u : Nat × Int32) => match u with | (F, P) => rv = none ∧ ((fl = 0 → F = n ∧ P = nI p) ∧ (¬ fl = 0 → F = fl ∧ P = fa))) (fun (u : Nat × Int32) => match u with | (F, P) => ([(d0, .inr (4, [.ref d1, .int (nI sz), .int (nI pa), .int cl, .int (nI F), .int P, .ref e0]))] : va_W)) = Q
  refine g_aload_n hX dX3_fail_0 rfl ?_
  refine g_getf hX dX3_fail_1 fk_X3_25 0 rfl rfl ?_
  refine g_ifN_ne (tgt := 17) hX dX3_fail_4 (by decide) (by omega) (fun h4 => ?_) (fun h4 => ?_)
  · skip
    subst hQ
    exact g_vretU hX dX3_fail_17 (fl, fa) (⟨rfl, fun h => absurd h h4, fun _ => ⟨rfl, rfl⟩⟩) rfl (Nat.le_refl _) (Nat.le_refl _)
  · skip
    refine g_aload_n hX dX3_fail_7 rfl ?_
    refine g_iload_n hX dX3_fail_8 rfl ?_
    refine g_puti (ws' := [(d0, .inr (4, [.ref d1, .int (nI sz), .int (nI pa), .int cl, .int (nI n), .int fa, .ref e0]))]) hX dX3_fail_9 fp_X3_25 0 rfl (Nat.le_of_ble_eq_true rfl) rfl ?_
    refine g_aload_n hX dX3_fail_12 rfl ?_
    refine g_iload_n hX dX3_fail_13 rfl ?_
    refine g_puti (ws' := [(d0, .inr (4, [.ref d1, .int (nI sz), .int (nI pa), .int cl, .int (nI n), .int (nI p), .ref e0]))]) hX dX3_fail_14 fp_X3_28 0 rfl (Nat.le_of_ble_eq_true rfl) rfl ?_
    subst hQ
    exact g_vretU hX dX3_fail_17 (n, (nI p)) (⟨rfl, fun _ => ⟨rfl, rfl⟩, fun h => absurd h4 h⟩) rfl (Nat.le_refl _) (Nat.le_refl _)
set_option maxRecDepth 100000 in
set_option maxHeartbeats 4000000 in
theorem ct_X3_pass {l : Launch} {D : va_G} {d0 d1 e0 sz pa fl : Nat} {cl fa : Int32} {t : Nat → Nat} {ch : Nat} (hsz : sz ≤ 150) (ht : ∀ k, t k < 256) (hpa : pa ≤ sz) (hfl : fl < 100) (hch : ch < 256) : Ct (S := Nat × Nat × Int32) l D yX3_pass cX3_pass 2 none 1 22 0 0 [.ref d0, .int (nI ch)] [(d0, .inr (4, [.ref d1, .int (nI sz), .int (nI pa), .int cl, .int (nI fl), .int fa, .ref e0])), (d1, .inl (D.1 101, 150, .inl (fun k => nI (t k))))] (fun (rv : Option Value) (u : Nat × Nat × Int32) => match u with | (A, F, P) => rv = none ∧ (fltP fl fa F P A sz (qWant t sz ch pa) (fun a => A = a))) (fun (u : Nat × Nat × Int32) => match u with | (A, F, P) => ([(d0, .inr (4, [.ref d1, .int (nI sz), .int (nI A), .int cl, .int (nI F), .int P, .ref e0])), (d1, .inl (D.1 101, 150, .inl (fun k => nI (t k))))] : va_W)) := by
  refine Ct.ofG (by decide) (Nat.le_of_ble_eq_true rfl) ?_
  intro X hX
  have hX : CX X l D RX3 "pass" cX3_pass 2 none 1 22 0 0 := hX
  show G X (QM X 0 0 (fun (rv : Option Value) (u : Nat × Nat × Int32) => match u with | (A, F, P) => rv = none ∧ (fltP fl fa F P A sz (qWant t sz ch pa) (fun a => A = a))) (fun (u : Nat × Nat × Int32) => match u with | (A, F, P) => ([(d0, .inr (4, [.ref d1, .int (nI sz), .int (nI A), .int cl, .int (nI F), .int P, .ref e0])), (d1, .inl (D.1 101, 150, .inl (fun k => nI (t k))))] : va_W))) [(d0, .inr (4, [.ref d1, .int (nI sz), .int (nI pa), .int cl, .int (nI fl), .int fa, .ref e0])), (d1, .inl (D.1 101, 150, .inl (fun k => nI (t k))))] 0 0 0 [some (.ref d0), some (.int (nI ch))] []
  generalize hQ : QM X 0 0 (fun (rv : Option Value) (u : Nat × Nat × Int32) => match u with | (A, F, P) => rv = none ∧ (fltP fl fa F P A sz (qWant t sz ch pa) (fun a => A = a))) (fun (u : Nat × Nat × Int32) => match u with | (A, F, P) => ([(d0, .inr (4, [.ref d1, .int (nI sz), .int (nI A), .int cl, .int (nI F), .int P, .ref e0])), (d1, .inl (D.1 101, 150, .inl (fun k => nI (t k))))] : va_W)) = Q
  refine g_aload_n hX dX3_pass_0 rfl ?_
  refine g_callFv (ws' := [(d0, .inr (4, [.ref d1, .int (nI sz), .int (nI (sk t sz pa)), .int cl, .int (nI fl), .int fa, .ref e0])), (d1, .inl (D.1 101, 150, .inl (fun k => nI (t k))))]) hX dX3_pass_1 cw_X3_42 (ct_X3_skipBlanks  (by omega) (by first | with_reducible assumption | assumption) (by omega)) 0 4 [0, 1] rfl rfl rfl rfl (by decide) rfl rfl ⟨by decide, by decide⟩ (Nat.le_of_ble_eq_true rfl) (Nat.le_refl _) (Nat.le_refl _) rfl ?_
  have hb0 := sk_le (t := t) hpa
  refine g_aload_n hX dX3_pass_4 rfl ?_
  refine g_getf hX dX3_pass_5 fk_X3_19 0 rfl rfl ?_
  refine g_aload_n hX dX3_pass_8 rfl ?_
  refine g_getf hX dX3_pass_9 fk_X3_15 0 rfl rfl ?_
  refine g_icmpN_ge (tgt := 41) hX dX3_pass_12 (by decide) (by omega) (by omega) (fun h12 => ?_) (fun h12 => ?_)
  · skip
    refine g_aload_n hX dX3_pass_41 rfl ?_
    refine g_iconst hX dX3_pass_42 kn_i_1 ?_
    refine g_aload_n hX dX3_pass_43 rfl ?_
    refine g_getf hX dX3_pass_44 fk_X3_19 0 rfl rfl ?_
    refine g_call hX dX3_pass_47 cw_X3_83 (ct_X3_fail  (by omega)) 0 4 [0] rfl rfl rfl rfl (by decide) rfl (fun ⟨_, _⟩ => rfl) ⟨by decide, by decide⟩ (Nat.le_of_ble_eq_true rfl) ⟨Nat.le_refl _, Nat.le_refl _⟩ (fun v u hp => ?_)
    obtain ⟨F47, P47⟩ := u
    obtain ⟨rfl, hs47⟩ := hp
    show G X Q [(d0, .inr (4, [.ref d1, .int (nI sz), .int (nI (sk t sz pa)), .int cl, .int (nI F47), .int P47, .ref e0])), (d1, .inl (D.1 101, 150, .inl (fun k => nI (t k))))] 0 0 50 [some (.ref d0), some (.int (nI ch))] []
    subst hQ
    exact g_vretU hX dX3_pass_50 ((sk t sz pa), F47, P47) (⟨rfl, flt_fail hb0 (if_neg (hereO_no1 h12)) (by decide) hs47⟩) rfl (Nat.le_refl _) (Nat.le_refl _)
  · skip
    refine g_aload_n hX dX3_pass_15 rfl ?_
    refine g_getf hX dX3_pass_16 fk_X3_9 0 rfl rfl ?_
    refine g_aload_n hX dX3_pass_19 rfl ?_
    refine g_getf hX dX3_pass_20 fk_X3_19 0 rfl rfl ?_
    refine g_cald hX dX3_pass_23 1 rfl (by decide) (by omega) ?_
    refine g_top (v' := nI (t (sk t sz pa))) rfl ?_
    have hct23 := ht (sk t sz pa)
    refine g_iload_n hX dX3_pass_24 rfl ?_
    refine g_icmpN_ne (tgt := 41) hX dX3_pass_25 (by decide) (by omega) (by omega) (fun h25 => ?_) (fun h25 => ?_)
    · skip
      refine g_aload_n hX dX3_pass_41 rfl ?_
      refine g_iconst hX dX3_pass_42 kn_i_1 ?_
      refine g_aload_n hX dX3_pass_43 rfl ?_
      refine g_getf hX dX3_pass_44 fk_X3_19 0 rfl rfl ?_
      refine g_call hX dX3_pass_47 cw_X3_83 (ct_X3_fail  (by omega)) 0 4 [0] rfl rfl rfl rfl (by decide) rfl (fun ⟨_, _⟩ => rfl) ⟨by decide, by decide⟩ (Nat.le_of_ble_eq_true rfl) ⟨Nat.le_refl _, Nat.le_refl _⟩ (fun v u hp => ?_)
      obtain ⟨F47, P47⟩ := u
      obtain ⟨rfl, hs47⟩ := hp
      show G X Q [(d0, .inr (4, [.ref d1, .int (nI sz), .int (nI (sk t sz pa)), .int cl, .int (nI F47), .int P47, .ref e0])), (d1, .inl (D.1 101, 150, .inl (fun k => nI (t k))))] 0 0 50 [some (.ref d0), some (.int (nI ch))] []
      subst hQ
      exact g_vretU hX dX3_pass_50 ((sk t sz pa), F47, P47) (⟨rfl, flt_fail hb0 (if_neg (hereO_no2 h25)) (by decide) hs47⟩) rfl (Nat.le_refl _) (Nat.le_refl _)
    · skip
      refine g_aload_n hX dX3_pass_28 rfl ?_
      refine g_dup hX dX3_pass_29 rfl ?_
      refine g_getf hX dX3_pass_30 fk_X3_19 0 rfl rfl ?_
      refine g_iconst hX dX3_pass_33 kn_i_1 ?_
      refine g_iaddN hX dX3_pass_34 ?_
      refine g_puti (ws' := [(d0, .inr (4, [.ref d1, .int (nI sz), .int (nI ((sk t sz pa) + 1)), .int cl, .int (nI fl), .int fa, .ref e0])), (d1, .inl (D.1 101, 150, .inl (fun k => nI (t k))))]) hX dX3_pass_35 fp_X3_19 0 rfl (Nat.le_of_ble_eq_true rfl) rfl ?_
      refine g_goto (tgt := 50) hX dX3_pass_38 (by decide) ?_
      subst hQ
      exact g_vretU hX dX3_pass_50 ((sk t sz pa) + 1, fl, fa) (⟨rfl, flt_pass (by omega) (if_pos (hereO_is h12 h25)) rfl⟩) rfl (Nat.le_refl _) (Nat.le_refl _)
set_option maxRecDepth 100000 in
set_option maxHeartbeats 4000000 in
theorem ct_X3_passMinus {l : Launch} {D : va_G} {d0 d1 e0 sz pa fl : Nat} {cl fa : Int32} {t : Nat → Nat} (hsz : sz ≤ 150) (ht : ∀ k, t k < 256) (hpa : pa ≤ sz) : Cf l D yX3_passMinus cX3_passMinus 1 (some .boolean) 1 20 [.ref d0] [(d0, .inr (4, [.ref d1, .int (nI sz), .int (nI pa), .int cl, .int (nI fl), .int fa, .ref e0])), (d1, .inl (D.1 101, 150, .inl (fun k => nI (t k))))] (some (.int (bI (decide (hereO t sz (sk t sz pa) = some 45))))) [(d0, .inr (4, [.ref d1, .int (nI sz), .int (nI (if hereO t sz (sk t sz pa) = some 45 then sk t sz pa + 1 else sk t sz pa)), .int cl, .int (nI fl), .int fa, .ref e0])), (d1, .inl (D.1 101, 150, .inl (fun k => nI (t k))))] := by
  refine Ct.ofG (by decide) (Nat.le_of_ble_eq_true rfl) ?_
  intro X hX
  have hX : CX X l D RX3 "passMinus" cX3_passMinus 1 (some .boolean) 1 20 0 0 := hX
  show G X (QF X (some (.int (bI (decide (hereO t sz (sk t sz pa) = some 45))))) [(d0, .inr (4, [.ref d1, .int (nI sz), .int (nI (if hereO t sz (sk t sz pa) = some 45 then sk t sz pa + 1 else sk t sz pa)), .int cl, .int (nI fl), .int fa, .ref e0])), (d1, .inl (D.1 101, 150, .inl (fun k => nI (t k))))]) [(d0, .inr (4, [.ref d1, .int (nI sz), .int (nI pa), .int cl, .int (nI fl), .int fa, .ref e0])), (d1, .inl (D.1 101, 150, .inl (fun k => nI (t k))))] 0 0 0 [some (.ref d0)] []
  generalize hQ : QF X (some (.int (bI (decide (hereO t sz (sk t sz pa) = some 45))))) [(d0, .inr (4, [.ref d1, .int (nI sz), .int (nI (if hereO t sz (sk t sz pa) = some 45 then sk t sz pa + 1 else sk t sz pa)), .int cl, .int (nI fl), .int fa, .ref e0])), (d1, .inl (D.1 101, 150, .inl (fun k => nI (t k))))] = Q
  refine g_aload_n hX dX3_passMinus_0 rfl ?_
  refine g_callFv (ws' := [(d0, .inr (4, [.ref d1, .int (nI sz), .int (nI (sk t sz pa)), .int cl, .int (nI fl), .int fa, .ref e0])), (d1, .inl (D.1 101, 150, .inl (fun k => nI (t k))))]) hX dX3_passMinus_1 cw_X3_42 (ct_X3_skipBlanks  (by omega) (by first | with_reducible assumption | assumption) (by omega)) 0 4 [0, 1] rfl rfl rfl rfl (by decide) rfl rfl ⟨by decide, by decide⟩ (Nat.le_of_ble_eq_true rfl) (Nat.le_refl _) (Nat.le_refl _) rfl ?_
  have hb0 := sk_le (t := t) hpa
  refine g_aload_n hX dX3_passMinus_4 rfl ?_
  refine g_getf hX dX3_passMinus_5 fk_X3_19 0 rfl rfl ?_
  refine g_aload_n hX dX3_passMinus_8 rfl ?_
  refine g_getf hX dX3_passMinus_9 fk_X3_15 0 rfl rfl ?_
  refine g_icmpN_ge (tgt := 41) hX dX3_passMinus_12 (by decide) (by omega) (by omega) (fun h12 => ?_) (fun h12 => ?_)
  · skip
    refine g_iconst hX dX3_passMinus_41 kn_i_0 ?_
    subst hQ
    exact g_zret false hX dX3_passMinus_42 (by decide) (bR (decide_eq_false (hereO_no1 h12))) (by rw [if_neg (hereO_no1 h12)]) rfl rfl
  · skip
    refine g_aload_n hX dX3_passMinus_15 rfl ?_
    refine g_getf hX dX3_passMinus_16 fk_X3_9 0 rfl rfl ?_
    refine g_aload_n hX dX3_passMinus_19 rfl ?_
    refine g_getf hX dX3_passMinus_20 fk_X3_19 0 rfl rfl ?_
    refine g_cald hX dX3_passMinus_23 1 rfl (by decide) (by omega) ?_
    refine g_top (v' := nI (t (sk t sz pa))) rfl ?_
    have hct23 := ht (sk t sz pa)
    refine g_bipush hX dX3_passMinus_24 kn_b_45 ?_
    refine g_icmpN_ne (tgt := 41) hX dX3_passMinus_26 (by decide) (by omega) (by omega) (fun h26 => ?_) (fun h26 => ?_)
    · skip
      refine g_iconst hX dX3_passMinus_41 kn_i_0 ?_
      subst hQ
      exact g_zret false hX dX3_passMinus_42 (by decide) (bR (decide_eq_false (hereO_no2 h26))) (by rw [if_neg (hereO_no2 h26)]) rfl rfl
    · skip
      refine g_aload_n hX dX3_passMinus_29 rfl ?_
      refine g_dup hX dX3_passMinus_30 rfl ?_
      refine g_getf hX dX3_passMinus_31 fk_X3_19 0 rfl rfl ?_
      refine g_iconst hX dX3_passMinus_34 kn_i_1 ?_
      refine g_iaddN hX dX3_passMinus_35 ?_
      refine g_puti (ws' := [(d0, .inr (4, [.ref d1, .int (nI sz), .int (nI ((sk t sz pa) + 1)), .int cl, .int (nI fl), .int fa, .ref e0])), (d1, .inl (D.1 101, 150, .inl (fun k => nI (t k))))]) hX dX3_passMinus_36 fp_X3_19 0 rfl (Nat.le_of_ble_eq_true rfl) rfl ?_
      refine g_iconst hX dX3_passMinus_39 kn_i_1 ?_
      subst hQ
      exact g_zret true hX dX3_passMinus_40 (by decide) (bR (decide_eq_true (hereO_is h12 h26))) (by rw [if_pos (hereO_is h12 h26)]) rfl rfl
set_option maxRecDepth 100000 in
set_option maxHeartbeats 4000000 in
theorem ct_X3_passWord {l : Launch} {D : va_G} {d0 d1 e0 sz pa fl : Nat} {cl fa : Int32} {t : Nat → Nat} (hsz : sz ≤ 150) (ht : ∀ k, t k < 256) (hpa : pa ≤ sz) : Cf l D yX3_passWord cX3_passWord 2 (some .int) 0 0 [.ref d0] [(d0, .inr (4, [.ref d1, .int (nI sz), .int (nI pa), .int cl, .int (nI fl), .int fa, .ref e0])), (d1, .inl (D.1 101, 150, .inl (fun k => nI (t k))))] (some (.int (nI (sm t sz pa - pa)))) [(d0, .inr (4, [.ref d1, .int (nI sz), .int (nI (sm t sz pa)), .int cl, .int (nI fl), .int fa, .ref e0])), (d1, .inl (D.1 101, 150, .inl (fun k => nI (t k))))] := by
  refine Ct.ofG (by decide) (Nat.le_of_ble_eq_true rfl) ?_
  intro X hX
  have hX : CX X l D RX3 "passWord" cX3_passWord 2 (some .int) 0 0 0 0 := hX
  show G X (QF X (some (.int (nI (sm t sz pa - pa)))) [(d0, .inr (4, [.ref d1, .int (nI sz), .int (nI (sm t sz pa)), .int cl, .int (nI fl), .int fa, .ref e0])), (d1, .inl (D.1 101, 150, .inl (fun k => nI (t k))))]) [(d0, .inr (4, [.ref d1, .int (nI sz), .int (nI pa), .int cl, .int (nI fl), .int fa, .ref e0])), (d1, .inl (D.1 101, 150, .inl (fun k => nI (t k))))] 0 0 0 [some (.ref d0), none] []
  generalize hQ : QF X (some (.int (nI (sm t sz pa - pa)))) [(d0, .inr (4, [.ref d1, .int (nI sz), .int (nI (sm t sz pa)), .int cl, .int (nI fl), .int fa, .ref e0])), (d1, .inl (D.1 101, 150, .inl (fun k => nI (t k))))] = Q
  refine g_aload_n hX dX3_passWord_0 rfl ?_
  refine g_getf hX dX3_passWord_1 fk_X3_19 0 rfl rfl ?_
  refine g_istore_n (L' := [some (.ref d0), some (.int (nI pa))]) hX dX3_passWord_4 (by decide) rfl ?_
  have loop5 : ∀ p : Nat, p ≤ sz → (sm t sz pa = sm t sz p) → (pa ≤ p) → G X Q [(d0, .inr (4, [.ref d1, .int (nI sz), .int (nI p), .int cl, .int (nI fl), .int fa, .ref e0])), (d1, .inl (D.1 101, 150, .inl (fun k => nI (t k))))] 0 0 5 [some (.ref d0), some (.int (nI pa))] [] := by
    refine loopN sz (fun p hh5 ih5 => ?_)
    intro hr hge
    refine g_aload_n hX dX3_passWord_5 rfl ?_
    refine g_getf hX dX3_passWord_6 fk_X3_19 0 rfl rfl ?_
    refine g_aload_n hX dX3_passWord_9 rfl ?_
    refine g_getf hX dX3_passWord_10 fk_X3_15 0 rfl rfl ?_
    refine g_icmpN_ge (tgt := 57) hX dX3_passWord_13 (by decide) (by omega) (by omega) (fun h13 => ?_) (fun h13 => ?_)
    · skip
      have hp : smlO (hereO t sz p) = false := sml_out (by omega)
      refine g_aload_n hX dX3_passWord_57 rfl ?_
      refine g_getf hX dX3_passWord_58 fk_X3_19 0 rfl rfl ?_
      refine g_iload_n hX dX3_passWord_61 rfl ?_
      refine g_isubN hX dX3_passWord_62 (by omega) ?_
      subst hQ
      exact g_iret hX dX3_passWord_63 (iR (congrArg nI (by rw [hr, sm_stop hp]))) (by rw [hr, sm_stop hp]) rfl rfl
    · skip
      refine g_aload_n hX dX3_passWord_16 rfl ?_
      refine g_getf hX dX3_passWord_17 fk_X3_9 0 rfl rfl ?_
      refine g_aload_n hX dX3_passWord_20 rfl ?_
      refine g_getf hX dX3_passWord_21 fk_X3_19 0 rfl rfl ?_
      refine g_cald hX dX3_passWord_24 1 rfl (by decide) (by omega) ?_
      refine g_top (v' := nI (t p)) rfl ?_
      have hct24 := ht p
      refine g_bipush hX dX3_passWord_25 kn_b_97 ?_
      refine g_icmpN_lt (tgt := 57) hX dX3_passWord_27 (by decide) (by omega) (by omega) (fun h27 => ?_) (fun h27 => ?_)
      · skip
        have hp : smlO (hereO t sz p) = false := sml_out (by omega)
        refine g_aload_n hX dX3_passWord_57 rfl ?_
        refine g_getf hX dX3_passWord_58 fk_X3_19 0 rfl rfl ?_
        refine g_iload_n hX dX3_passWord_61 rfl ?_
        refine g_isubN hX dX3_passWord_62 (by omega) ?_
        subst hQ
        exact g_iret hX dX3_passWord_63 (iR (congrArg nI (by rw [hr, sm_stop hp]))) (by rw [hr, sm_stop hp]) rfl rfl
      · skip
        refine g_aload_n hX dX3_passWord_30 rfl ?_
        refine g_getf hX dX3_passWord_31 fk_X3_9 0 rfl rfl ?_
        refine g_aload_n hX dX3_passWord_34 rfl ?_
        refine g_getf hX dX3_passWord_35 fk_X3_19 0 rfl rfl ?_
        refine g_cald hX dX3_passWord_38 1 rfl (by decide) (by omega) ?_
        refine g_top (v' := nI (t p)) rfl ?_
        have hct38 := ht p
        refine g_bipush hX dX3_passWord_39 kn_b_122 ?_
        refine g_icmpN_gt (tgt := 57) hX dX3_passWord_41 (by decide) (by omega) (by omega) (fun h41 => ?_) (fun h41 => ?_)
        · skip
          have hp : smlO (hereO t sz p) = false := sml_out (by omega)
          refine g_aload_n hX dX3_passWord_57 rfl ?_
          refine g_getf hX dX3_passWord_58 fk_X3_19 0 rfl rfl ?_
          refine g_iload_n hX dX3_passWord_61 rfl ?_
          refine g_isubN hX dX3_passWord_62 (by omega) ?_
          subst hQ
          exact g_iret hX dX3_passWord_63 (iR (congrArg nI (by rw [hr, sm_stop hp]))) (by rw [hr, sm_stop hp]) rfl rfl
        · skip
          refine g_aload_n hX dX3_passWord_44 rfl ?_
          refine g_dup hX dX3_passWord_45 rfl ?_
          refine g_getf hX dX3_passWord_46 fk_X3_19 0 rfl rfl ?_
          refine g_iconst hX dX3_passWord_49 kn_i_1 ?_
          refine g_iaddN hX dX3_passWord_50 ?_
          refine g_puti (ws' := [(d0, .inr (4, [.ref d1, .int (nI sz), .int (nI (p + 1)), .int cl, .int (nI fl), .int fa, .ref e0])), (d1, .inl (D.1 101, 150, .inl (fun k => nI (t k))))]) hX dX3_passWord_51 fp_X3_19 0 rfl (Nat.le_of_ble_eq_true rfl) rfl ?_
          refine g_goto (tgt := 5) hX dX3_passWord_54 (by decide) ?_
          exact g_fin (ih5 (by omega) (hr.trans (sm_step (sml_in h13 (by omega) (by omega)))) (by omega)) (rfl) rfl ⟨rfl, rfl, trivial⟩
  exact g_fin (loop5 pa (by omega) rfl (Nat.le_refl _)) (rfl) rfl ⟨rfl, rfl, trivial⟩
set_option maxRecDepth 100000 in
set_option maxHeartbeats 4000000 in
theorem ct_X3_readNumber {l : Launch} {D : va_G} {d0 d1 e0 sz pa fl : Nat} {cl fa : Int32} {t : Nat → Nat} {lo hi : Nat} (hsz : sz ≤ 150) (ht : ∀ k, t k < 256) (hpa : pa ≤ sz) (hfl : fl < 100) (hlo : lo < 100) (hhi : hi < 100) : Ct (S := Nat × Nat × Nat × Int32) l D yX3_readNumber cX3_readNumber 6 (some .int) 1 22 0 0 [.ref d0, .int (nI lo), .int (nI hi)] [(d0, .inr (4, [.ref d1, .int (nI sz), .int (nI pa), .int cl, .int (nI fl), .int fa, .ref e0])), (d1, .inl (D.1 101, 150, .inl (fun k => nI (t k))))] (fun (rv : Option Value) (u : Nat × Nat × Nat × Int32) => match u with | (V, A, F, P) => rv = (some (.int (nI V))) ∧ (fltP fl fa F P A sz (qNum t sz lo hi pa) (fun a => V = a.1 ∧ A = a.2)) ∧ (V < 1000)) (fun (u : Nat × Nat × Nat × Int32) => match u with | (V, A, F, P) => ([(d0, .inr (4, [.ref d1, .int (nI sz), .int (nI A), .int cl, .int (nI F), .int P, .ref e0])), (d1, .inl (D.1 101, 150, .inl (fun k => nI (t k))))] : va_W)) := by
  refine Ct.ofG (by decide) (Nat.le_of_ble_eq_true rfl) ?_
  intro X hX
  have hX : CX X l D RX3 "readNumber" cX3_readNumber 6 (some .int) 1 22 0 0 := hX
  show G X (QM X 0 0 (fun (rv : Option Value) (u : Nat × Nat × Nat × Int32) => match u with | (V, A, F, P) => rv = (some (.int (nI V))) ∧ (fltP fl fa F P A sz (qNum t sz lo hi pa) (fun a => V = a.1 ∧ A = a.2)) ∧ (V < 1000)) (fun (u : Nat × Nat × Nat × Int32) => match u with | (V, A, F, P) => ([(d0, .inr (4, [.ref d1, .int (nI sz), .int (nI A), .int cl, .int (nI F), .int P, .ref e0])), (d1, .inl (D.1 101, 150, .inl (fun k => nI (t k))))] : va_W))) [(d0, .inr (4, [.ref d1, .int (nI sz), .int (nI pa), .int cl, .int (nI fl), .int fa, .ref e0])), (d1, .inl (D.1 101, 150, .inl (fun k => nI (t k))))] 0 0 0 [some (.ref d0), some (.int (nI lo)), some (.int (nI hi)), none, none, none] []
  generalize hQ : QM X 0 0 (fun (rv : Option Value) (u : Nat × Nat × Nat × Int32) => match u with | (V, A, F, P) => rv = (some (.int (nI V))) ∧ (fltP fl fa F P A sz (qNum t sz lo hi pa) (fun a => V = a.1 ∧ A = a.2)) ∧ (V < 1000)) (fun (u : Nat × Nat × Nat × Int32) => match u with | (V, A, F, P) => ([(d0, .inr (4, [.ref d1, .int (nI sz), .int (nI A), .int cl, .int (nI F), .int P, .ref e0])), (d1, .inl (D.1 101, 150, .inl (fun k => nI (t k))))] : va_W)) = Q
  refine g_aload_n hX dX3_readNumber_0 rfl ?_
  refine g_callFv (ws' := [(d0, .inr (4, [.ref d1, .int (nI sz), .int (nI (sk t sz pa)), .int cl, .int (nI fl), .int fa, .ref e0])), (d1, .inl (D.1 101, 150, .inl (fun k => nI (t k))))]) hX dX3_readNumber_1 cw_X3_42 (ct_X3_skipBlanks  (by omega) (by first | with_reducible assumption | assumption) (by omega)) 0 4 [0, 1] rfl rfl rfl rfl (by decide) rfl rfl ⟨by decide, by decide⟩ (Nat.le_of_ble_eq_true rfl) (Nat.le_refl _) (Nat.le_refl _) rfl ?_
  have hb0 := sk_le (t := t) hpa
  refine g_aload_n hX dX3_readNumber_4 rfl ?_
  refine g_getf hX dX3_readNumber_5 fk_X3_19 0 rfl rfl ?_
  refine g_istore_n (L' := [some (.ref d0), some (.int (nI lo)), some (.int (nI hi)), some (.int (nI (sk t sz pa))), none, none]) hX dX3_readNumber_8 (by decide) rfl ?_
  refine g_iconst hX dX3_readNumber_9 kn_i_0 ?_
  refine g_istore (L' := [some (.ref d0), some (.int (nI lo)), some (.int (nI hi)), some (.int (nI (sk t sz pa))), some (.int (nI 0)), none]) hX dX3_readNumber_10 (by decide) rfl ?_
  refine g_iconst hX dX3_readNumber_12 kn_i_0 ?_
  refine g_istore (L' := [some (.ref d0), some (.int (nI lo)), some (.int (nI hi)), some (.int (nI (sk t sz pa))), some (.int (nI 0)), some (.int (nI 0))]) hX dX3_readNumber_13 (by decide) rfl ?_
  have loop15 : ∀ n : Nat, n ≤ 3 → (∀ i, i < n → figO (hereO t sz (sk t sz pa + i)) = true) → G X Q [(d0, .inr (4, [.ref d1, .int (nI sz), .int (nI (sk t sz pa + n)), .int cl, .int (nI fl), .int fa, .ref e0])), (d1, .inl (D.1 101, 150, .inl (fun k => nI (t k))))] 0 0 15 [some (.ref d0), some (.int (nI lo)), some (.int (nI hi)), some (.int (nI (sk t sz pa))), some (.int (nI (vN t (sk t sz pa) n))), some (.int (nI n))] [] := by
    refine loopN 3 (fun n hh15 ih15 => ?_)
    intro hd
    have hsn : sk t sz pa + n ≤ sz := run_le hb0 hd
    have hvb : vN t (sk t sz pa) n < 1000 := vN_1000 hh15 hd
    refine g_iload hX dX3_readNumber_15 rfl ?_
    refine g_iconst hX dX3_readNumber_17 kn_i_3 ?_
    refine g_icmpN_ge (tgt := 68) hX dX3_readNumber_18 (by decide) (by omega) (by omega) (fun h18 => ?_) (fun h18 => ?_)
    · skip
      have hstop : n = 3 ∨ figO (hereO t sz (sk t sz pa + n)) = false := Or.inl (by omega)
      refine g_aload_n hX dX3_readNumber_68 rfl ?_
      refine g_getf hX dX3_readNumber_69 fk_X3_19 0 rfl rfl ?_
      refine g_iload_n hX dX3_readNumber_72 rfl ?_
      refine g_icmpN_ne (tgt := 85) hX dX3_readNumber_73 (by decide) (by omega) (by omega) (fun h73 => ?_) (fun h73 => ?_)
      · skip
        refine g_aload_n hX dX3_readNumber_85 rfl ?_
        refine g_getf hX dX3_readNumber_86 fk_X3_19 0 rfl rfl ?_
        refine g_iload_n hX dX3_readNumber_89 rfl ?_
        refine g_isubN hX dX3_readNumber_90 (by omega) ?_
        refine g_iconst hX dX3_readNumber_91 kn_i_2 ?_
        refine g_icmpN_gt (tgt := 107) hX dX3_readNumber_92 (by decide) (by omega) (by omega) (fun h92 => ?_) (fun h92 => ?_)
        · skip
          refine g_aload_n hX dX3_readNumber_107 rfl ?_
          refine g_iconst hX dX3_readNumber_108 kn_i_2 ?_
          refine g_iload_n hX dX3_readNumber_109 rfl ?_
          refine g_call hX dX3_readNumber_110 cw_X3_83 (ct_X3_fail  (by omega)) 0 4 [0] rfl rfl rfl rfl (by decide) rfl (fun ⟨_, _⟩ => rfl) ⟨by decide, by decide⟩ (Nat.le_of_ble_eq_true rfl) ⟨Nat.le_refl _, Nat.le_refl _⟩ (fun v u hp => ?_)
          obtain ⟨F110, P110⟩ := u
          obtain ⟨rfl, hs110⟩ := hp
          show G X Q [(d0, .inr (4, [.ref d1, .int (nI sz), .int (nI (sk t sz pa + n)), .int cl, .int (nI F110), .int P110, .ref e0])), (d1, .inl (D.1 101, 150, .inl (fun k => nI (t k))))] 0 0 113 [some (.ref d0), some (.int (nI lo)), some (.int (nI hi)), some (.int (nI (sk t sz pa))), some (.int (nI (vN t (sk t sz pa) n))), some (.int (nI n))] []
          refine g_iload hX dX3_readNumber_113 rfl ?_
          subst hQ
          exact g_zretU hX dX3_readNumber_115 (vp_nar_int _) (vN t (sk t sz pa) n, (sk t sz pa + n), F110, P110) (⟨rfl, flt_fail hsn (qNum_3 (by omega) hd) (by decide) hs110, hvb⟩) rfl (Nat.le_refl _) (Nat.le_refl _)
        · skip
          refine g_iload hX dX3_readNumber_95 rfl ?_
          refine g_iload_n hX dX3_readNumber_97 rfl ?_
          refine g_icmpN_lt (tgt := 107) hX dX3_readNumber_98 (by decide) (by omega) (by omega) (fun h98 => ?_) (fun h98 => ?_)
          · skip
            refine g_aload_n hX dX3_readNumber_107 rfl ?_
            refine g_iconst hX dX3_readNumber_108 kn_i_2 ?_
            refine g_iload_n hX dX3_readNumber_109 rfl ?_
            refine g_call hX dX3_readNumber_110 cw_X3_83 (ct_X3_fail  (by omega)) 0 4 [0] rfl rfl rfl rfl (by decide) rfl (fun ⟨_, _⟩ => rfl) ⟨by decide, by decide⟩ (Nat.le_of_ble_eq_true rfl) ⟨Nat.le_refl _, Nat.le_refl _⟩ (fun v u hp => ?_)
            obtain ⟨F110, P110⟩ := u
            obtain ⟨rfl, hs110⟩ := hp
            show G X Q [(d0, .inr (4, [.ref d1, .int (nI sz), .int (nI (sk t sz pa + n)), .int cl, .int (nI F110), .int P110, .ref e0])), (d1, .inl (D.1 101, 150, .inl (fun k => nI (t k))))] 0 0 113 [some (.ref d0), some (.int (nI lo)), some (.int (nI hi)), some (.int (nI (sk t sz pa))), some (.int (nI (vN t (sk t sz pa) n))), some (.int (nI n))] []
            refine g_iload hX dX3_readNumber_113 rfl ?_
            subst hQ
            exact g_zretU hX dX3_readNumber_115 (vp_nar_int _) (vN t (sk t sz pa) n, (sk t sz pa + n), F110, P110) (⟨rfl, flt_fail hsn ((qNum_12 (by omega) (by omega) hstop hd).trans (if_pos (Or.inl h98))) (by decide) hs110, hvb⟩) rfl (Nat.le_refl _) (Nat.le_refl _)
          · skip
            refine g_iload hX dX3_readNumber_101 rfl ?_
            refine g_iload_n hX dX3_readNumber_103 rfl ?_
            refine g_icmpN_le (tgt := 113) hX dX3_readNumber_104 (by decide) (by omega) (by omega) (fun h104 => ?_) (fun h104 => ?_)
            · skip
              refine g_iload hX dX3_readNumber_113 rfl ?_
              subst hQ
              exact g_zretU hX dX3_readNumber_115 (vp_nar_int _) (vN t (sk t sz pa) n, sk t sz pa + n, fl, fa) (⟨rfl, flt_pass hsn ((qNum_12 (by omega) (by omega) hstop hd).trans (if_neg (by omega))) ⟨rfl, rfl⟩, hvb⟩) rfl (Nat.le_refl _) (Nat.le_refl _)
            · skip
              refine g_aload_n hX dX3_readNumber_107 rfl ?_
              refine g_iconst hX dX3_readNumber_108 kn_i_2 ?_
              refine g_iload_n hX dX3_readNumber_109 rfl ?_
              refine g_call hX dX3_readNumber_110 cw_X3_83 (ct_X3_fail  (by omega)) 0 4 [0] rfl rfl rfl rfl (by decide) rfl (fun ⟨_, _⟩ => rfl) ⟨by decide, by decide⟩ (Nat.le_of_ble_eq_true rfl) ⟨Nat.le_refl _, Nat.le_refl _⟩ (fun v u hp => ?_)
              obtain ⟨F110, P110⟩ := u
              obtain ⟨rfl, hs110⟩ := hp
              show G X Q [(d0, .inr (4, [.ref d1, .int (nI sz), .int (nI (sk t sz pa + n)), .int cl, .int (nI F110), .int P110, .ref e0])), (d1, .inl (D.1 101, 150, .inl (fun k => nI (t k))))] 0 0 113 [some (.ref d0), some (.int (nI lo)), some (.int (nI hi)), some (.int (nI (sk t sz pa))), some (.int (nI (vN t (sk t sz pa) n))), some (.int (nI n))] []
              refine g_iload hX dX3_readNumber_113 rfl ?_
              subst hQ
              exact g_zretU hX dX3_readNumber_115 (vp_nar_int _) (vN t (sk t sz pa) n, (sk t sz pa + n), F110, P110) (⟨rfl, flt_fail hsn ((qNum_12 (by omega) (by omega) hstop hd).trans (if_pos (Or.inr (by omega)))) (by decide) hs110, hvb⟩) rfl (Nat.le_refl _) (Nat.le_refl _)
      · skip
        refine g_aload_n hX dX3_readNumber_76 rfl ?_
        refine g_iconst hX dX3_readNumber_77 kn_i_1 ?_
        refine g_iload_n hX dX3_readNumber_78 rfl ?_
        refine g_call hX dX3_readNumber_79 cw_X3_83 (ct_X3_fail  (by omega)) 0 4 [0] rfl rfl rfl rfl (by decide) rfl (fun ⟨_, _⟩ => rfl) ⟨by decide, by decide⟩ (Nat.le_of_ble_eq_true rfl) ⟨Nat.le_refl _, Nat.le_refl _⟩ (fun v u hp => ?_)
        obtain ⟨F79, P79⟩ := u
        obtain ⟨rfl, hs79⟩ := hp
        show G X Q [(d0, .inr (4, [.ref d1, .int (nI sz), .int (nI (sk t sz pa + n)), .int cl, .int (nI F79), .int P79, .ref e0])), (d1, .inl (D.1 101, 150, .inl (fun k => nI (t k))))] 0 0 82 [some (.ref d0), some (.int (nI lo)), some (.int (nI hi)), some (.int (nI (sk t sz pa))), some (.int (nI (vN t (sk t sz pa) n))), some (.int (nI n))] []
        refine g_goto (tgt := 113) hX dX3_readNumber_82 (by decide) ?_
        refine g_iload hX dX3_readNumber_113 rfl ?_
        subst hQ
        exact g_zretU hX dX3_readNumber_115 (vp_nar_int _) (vN t (sk t sz pa) n, (sk t sz pa + n), F79, P79) (⟨rfl, flt_fail hsn (qNum_0 (by omega) hstop hd) (by decide) hs79, hvb⟩) rfl (Nat.le_refl _) (Nat.le_refl _)
    · skip
      refine g_aload_n hX dX3_readNumber_21 rfl ?_
      refine g_aload_n hX dX3_readNumber_22 rfl ?_
      refine g_getf hX dX3_readNumber_23 fk_X3_19 0 rfl rfl ?_
      refine g_callRi hX dX3_readNumber_26 cw_X3_132 (ct_X3_isFigure  (by omega) (by first | with_reducible assumption | assumption) (by omega)) 0 4 [0, 1] rfl rfl rfl rfl (by decide) rfl ⟨by decide, by decide⟩ (Nat.le_of_ble_eq_true rfl) (Nat.le_refl _) (Nat.le_refl _) ?_
      refine g_ifb_eq (tgt := 68) hX dX3_readNumber_29 (by decide) (fun h29 => ?_) (fun h29 => ?_)
      · skip
        have hstop : n = 3 ∨ figO (hereO t sz (sk t sz pa + n)) = false := Or.inr h29
        refine g_aload_n hX dX3_readNumber_68 rfl ?_
        refine g_getf hX dX3_readNumber_69 fk_X3_19 0 rfl rfl ?_
        refine g_iload_n hX dX3_readNumber_72 rfl ?_
        refine g_icmpN_ne (tgt := 85) hX dX3_readNumber_73 (by decide) (by omega) (by omega) (fun h73 => ?_) (fun h73 => ?_)
        · skip
          refine g_aload_n hX dX3_readNumber_85 rfl ?_
          refine g_getf hX dX3_readNumber_86 fk_X3_19 0 rfl rfl ?_
          refine g_iload_n hX dX3_readNumber_89 rfl ?_
          refine g_isubN hX dX3_readNumber_90 (by omega) ?_
          refine g_iconst hX dX3_readNumber_91 kn_i_2 ?_
          refine g_icmpN_gt (tgt := 107) hX dX3_readNumber_92 (by decide) (by omega) (by omega) (fun h92 => ?_) (fun h92 => ?_)
          · skip
            refine g_aload_n hX dX3_readNumber_107 rfl ?_
            refine g_iconst hX dX3_readNumber_108 kn_i_2 ?_
            refine g_iload_n hX dX3_readNumber_109 rfl ?_
            refine g_call hX dX3_readNumber_110 cw_X3_83 (ct_X3_fail  (by omega)) 0 4 [0] rfl rfl rfl rfl (by decide) rfl (fun ⟨_, _⟩ => rfl) ⟨by decide, by decide⟩ (Nat.le_of_ble_eq_true rfl) ⟨Nat.le_refl _, Nat.le_refl _⟩ (fun v u hp => ?_)
            obtain ⟨F110, P110⟩ := u
            obtain ⟨rfl, hs110⟩ := hp
            show G X Q [(d0, .inr (4, [.ref d1, .int (nI sz), .int (nI (sk t sz pa + n)), .int cl, .int (nI F110), .int P110, .ref e0])), (d1, .inl (D.1 101, 150, .inl (fun k => nI (t k))))] 0 0 113 [some (.ref d0), some (.int (nI lo)), some (.int (nI hi)), some (.int (nI (sk t sz pa))), some (.int (nI (vN t (sk t sz pa) n))), some (.int (nI n))] []
            refine g_iload hX dX3_readNumber_113 rfl ?_
            subst hQ
            exact g_zretU hX dX3_readNumber_115 (vp_nar_int _) (vN t (sk t sz pa) n, (sk t sz pa + n), F110, P110) (⟨rfl, flt_fail hsn (qNum_3 (by omega) hd) (by decide) hs110, hvb⟩) rfl (Nat.le_refl _) (Nat.le_refl _)
          · skip
            refine g_iload hX dX3_readNumber_95 rfl ?_
            refine g_iload_n hX dX3_readNumber_97 rfl ?_
            refine g_icmpN_lt (tgt := 107) hX dX3_readNumber_98 (by decide) (by omega) (by omega) (fun h98 => ?_) (fun h98 => ?_)
            · skip
              refine g_aload_n hX dX3_readNumber_107 rfl ?_
              refine g_iconst hX dX3_readNumber_108 kn_i_2 ?_
              refine g_iload_n hX dX3_readNumber_109 rfl ?_
              refine g_call hX dX3_readNumber_110 cw_X3_83 (ct_X3_fail  (by omega)) 0 4 [0] rfl rfl rfl rfl (by decide) rfl (fun ⟨_, _⟩ => rfl) ⟨by decide, by decide⟩ (Nat.le_of_ble_eq_true rfl) ⟨Nat.le_refl _, Nat.le_refl _⟩ (fun v u hp => ?_)
              obtain ⟨F110, P110⟩ := u
              obtain ⟨rfl, hs110⟩ := hp
              show G X Q [(d0, .inr (4, [.ref d1, .int (nI sz), .int (nI (sk t sz pa + n)), .int cl, .int (nI F110), .int P110, .ref e0])), (d1, .inl (D.1 101, 150, .inl (fun k => nI (t k))))] 0 0 113 [some (.ref d0), some (.int (nI lo)), some (.int (nI hi)), some (.int (nI (sk t sz pa))), some (.int (nI (vN t (sk t sz pa) n))), some (.int (nI n))] []
              refine g_iload hX dX3_readNumber_113 rfl ?_
              subst hQ
              exact g_zretU hX dX3_readNumber_115 (vp_nar_int _) (vN t (sk t sz pa) n, (sk t sz pa + n), F110, P110) (⟨rfl, flt_fail hsn ((qNum_12 (by omega) (by omega) hstop hd).trans (if_pos (Or.inl h98))) (by decide) hs110, hvb⟩) rfl (Nat.le_refl _) (Nat.le_refl _)
            · skip
              refine g_iload hX dX3_readNumber_101 rfl ?_
              refine g_iload_n hX dX3_readNumber_103 rfl ?_
              refine g_icmpN_le (tgt := 113) hX dX3_readNumber_104 (by decide) (by omega) (by omega) (fun h104 => ?_) (fun h104 => ?_)
              · skip
                refine g_iload hX dX3_readNumber_113 rfl ?_
                subst hQ
                exact g_zretU hX dX3_readNumber_115 (vp_nar_int _) (vN t (sk t sz pa) n, sk t sz pa + n, fl, fa) (⟨rfl, flt_pass hsn ((qNum_12 (by omega) (by omega) hstop hd).trans (if_neg (by omega))) ⟨rfl, rfl⟩, hvb⟩) rfl (Nat.le_refl _) (Nat.le_refl _)
              · skip
                refine g_aload_n hX dX3_readNumber_107 rfl ?_
                refine g_iconst hX dX3_readNumber_108 kn_i_2 ?_
                refine g_iload_n hX dX3_readNumber_109 rfl ?_
                refine g_call hX dX3_readNumber_110 cw_X3_83 (ct_X3_fail  (by omega)) 0 4 [0] rfl rfl rfl rfl (by decide) rfl (fun ⟨_, _⟩ => rfl) ⟨by decide, by decide⟩ (Nat.le_of_ble_eq_true rfl) ⟨Nat.le_refl _, Nat.le_refl _⟩ (fun v u hp => ?_)
                obtain ⟨F110, P110⟩ := u
                obtain ⟨rfl, hs110⟩ := hp
                show G X Q [(d0, .inr (4, [.ref d1, .int (nI sz), .int (nI (sk t sz pa + n)), .int cl, .int (nI F110), .int P110, .ref e0])), (d1, .inl (D.1 101, 150, .inl (fun k => nI (t k))))] 0 0 113 [some (.ref d0), some (.int (nI lo)), some (.int (nI hi)), some (.int (nI (sk t sz pa))), some (.int (nI (vN t (sk t sz pa) n))), some (.int (nI n))] []
                refine g_iload hX dX3_readNumber_113 rfl ?_
                subst hQ
                exact g_zretU hX dX3_readNumber_115 (vp_nar_int _) (vN t (sk t sz pa) n, (sk t sz pa + n), F110, P110) (⟨rfl, flt_fail hsn ((qNum_12 (by omega) (by omega) hstop hd).trans (if_pos (Or.inr (by omega)))) (by decide) hs110, hvb⟩) rfl (Nat.le_refl _) (Nat.le_refl _)
        · skip
          refine g_aload_n hX dX3_readNumber_76 rfl ?_
          refine g_iconst hX dX3_readNumber_77 kn_i_1 ?_
          refine g_iload_n hX dX3_readNumber_78 rfl ?_
          refine g_call hX dX3_readNumber_79 cw_X3_83 (ct_X3_fail  (by omega)) 0 4 [0] rfl rfl rfl rfl (by decide) rfl (fun ⟨_, _⟩ => rfl) ⟨by decide, by decide⟩ (Nat.le_of_ble_eq_true rfl) ⟨Nat.le_refl _, Nat.le_refl _⟩ (fun v u hp => ?_)
          obtain ⟨F79, P79⟩ := u
          obtain ⟨rfl, hs79⟩ := hp
          show G X Q [(d0, .inr (4, [.ref d1, .int (nI sz), .int (nI (sk t sz pa + n)), .int cl, .int (nI F79), .int P79, .ref e0])), (d1, .inl (D.1 101, 150, .inl (fun k => nI (t k))))] 0 0 82 [some (.ref d0), some (.int (nI lo)), some (.int (nI hi)), some (.int (nI (sk t sz pa))), some (.int (nI (vN t (sk t sz pa) n))), some (.int (nI n))] []
          refine g_goto (tgt := 113) hX dX3_readNumber_82 (by decide) ?_
          refine g_iload hX dX3_readNumber_113 rfl ?_
          subst hQ
          exact g_zretU hX dX3_readNumber_115 (vp_nar_int _) (vN t (sk t sz pa) n, (sk t sz pa + n), F79, P79) (⟨rfl, flt_fail hsn (qNum_0 (by omega) hstop hd) (by decide) hs79, hvb⟩) rfl (Nat.le_refl _) (Nat.le_refl _)
      · skip
        have hfi := figO_in h29
        refine g_bipush hX dX3_readNumber_32 kn_b_10 ?_
        refine g_iload hX dX3_readNumber_34 rfl ?_
        refine g_imulN hX dX3_readNumber_36 ?_
        refine g_aload_n hX dX3_readNumber_37 rfl ?_
        refine g_getf hX dX3_readNumber_38 fk_X3_9 0 rfl rfl ?_
        refine g_aload_n hX dX3_readNumber_41 rfl ?_
        refine g_getf hX dX3_readNumber_42 fk_X3_19 0 rfl rfl ?_
        refine g_cald hX dX3_readNumber_45 1 rfl (by decide) (by omega) ?_
        refine g_top (v' := nI (t (sk t sz pa + n))) rfl ?_
        have hct45 := ht (sk t sz pa + n)
        refine g_iaddN hX dX3_readNumber_46 ?_
        refine g_bipush hX dX3_readNumber_47 kn_b_48 ?_
        refine g_isubN hX dX3_readNumber_49 (by omega) ?_
        refine g_istore (L' := [some (.ref d0), some (.int (nI lo)), some (.int (nI hi)), some (.int (nI (sk t sz pa))), some (.int (nI (((10 * (vN t (sk t sz pa) n)) + (t (sk t sz pa + n))) - 48))), some (.int (nI n))]) hX dX3_readNumber_50 (by decide) rfl ?_
        refine g_aload_n hX dX3_readNumber_52 rfl ?_
        refine g_dup hX dX3_readNumber_53 rfl ?_
        refine g_getf hX dX3_readNumber_54 fk_X3_19 0 rfl rfl ?_
        refine g_iconst hX dX3_readNumber_57 kn_i_1 ?_
        refine g_iaddN hX dX3_readNumber_58 ?_
        refine g_puti (ws' := [(d0, .inr (4, [.ref d1, .int (nI sz), .int (nI ((sk t sz pa + n) + 1)), .int cl, .int (nI fl), .int fa, .ref e0])), (d1, .inl (D.1 101, 150, .inl (fun k => nI (t k))))]) hX dX3_readNumber_59 fp_X3_19 0 rfl (Nat.le_of_ble_eq_true rfl) rfl ?_
        refine g_iincN (L' := [some (.ref d0), some (.int (nI lo)), some (.int (nI hi)), some (.int (nI (sk t sz pa))), some (.int (nI (((10 * (vN t (sk t sz pa) n)) + (t (sk t sz pa + n))) - 48))), some (.int (nI (n + 1)))]) hX dX3_readNumber_62 rfl (by decide) rfl ?_
        refine g_goto (tgt := 15) hX dX3_readNumber_65 (by decide) ?_
        exact g_fin (ih15 (by omega) (run_s hd h29)) (rfl) rfl ⟨rfl, rfl, rfl, rfl, (congrArg some (congrArg Value.int (congrArg nI (by show 10 * vN t (sk t sz pa) n + t (sk t sz pa + n) - 48 = 10 * vN t (sk t sz pa) n + (t (sk t sz pa + n) - 48); omega)))), rfl, trivial⟩
  exact g_fin (loop15 0 (by omega) (fun i hi => absurd hi (by omega))) (rfl) rfl ⟨rfl, rfl, rfl, rfl, rfl, rfl, trivial⟩
set_option maxRecDepth 100000 in
set_option maxHeartbeats 4000000 in
theorem ct_X3_readWidth {l : Launch} {D : va_G} {d0 d1 e0 sz pa fl : Nat} {cl fa : Int32} {t : Nat → Nat} (hsz : sz ≤ 150) (ht : ∀ k, t k < 256) (hpa : pa ≤ sz) (hfl : fl < 100) : Ct (S := Nat × Nat × Nat × Int32) l D yX3_readWidth cX3_readWidth 2 (some .int) 1 22 0 0 [.ref d0] [(d0, .inr (4, [.ref d1, .int (nI sz), .int (nI pa), .int cl, .int (nI fl), .int fa, .ref e0])), (d1, .inl (D.1 101, 150, .inl (fun k => nI (t k))))] (fun (rv : Option Value) (u : Nat × Nat × Nat × Int32) => match u with | (V, A, F, P) => rv = (some (.int (nI V))) ∧ (fltP fl fa F P A sz (qFig t sz 1 (sk t sz pa)) (fun a => V = a.1 ∧ A = a.2)) ∧ (V < 10)) (fun (u : Nat × Nat × Nat × Int32) => match u with | (V, A, F, P) => ([(d0, .inr (4, [.ref d1, .int (nI sz), .int (nI A), .int cl, .int (nI F), .int P, .ref e0])), (d1, .inl (D.1 101, 150, .inl (fun k => nI (t k))))] : va_W)) := by
  refine Ct.ofG (by decide) (Nat.le_of_ble_eq_true rfl) ?_
  intro X hX
  have hX : CX X l D RX3 "readWidth" cX3_readWidth 2 (some .int) 1 22 0 0 := hX
  show G X (QM X 0 0 (fun (rv : Option Value) (u : Nat × Nat × Nat × Int32) => match u with | (V, A, F, P) => rv = (some (.int (nI V))) ∧ (fltP fl fa F P A sz (qFig t sz 1 (sk t sz pa)) (fun a => V = a.1 ∧ A = a.2)) ∧ (V < 10)) (fun (u : Nat × Nat × Nat × Int32) => match u with | (V, A, F, P) => ([(d0, .inr (4, [.ref d1, .int (nI sz), .int (nI A), .int cl, .int (nI F), .int P, .ref e0])), (d1, .inl (D.1 101, 150, .inl (fun k => nI (t k))))] : va_W))) [(d0, .inr (4, [.ref d1, .int (nI sz), .int (nI pa), .int cl, .int (nI fl), .int fa, .ref e0])), (d1, .inl (D.1 101, 150, .inl (fun k => nI (t k))))] 0 0 0 [some (.ref d0), none] []
  generalize hQ : QM X 0 0 (fun (rv : Option Value) (u : Nat × Nat × Nat × Int32) => match u with | (V, A, F, P) => rv = (some (.int (nI V))) ∧ (fltP fl fa F P A sz (qFig t sz 1 (sk t sz pa)) (fun a => V = a.1 ∧ A = a.2)) ∧ (V < 10)) (fun (u : Nat × Nat × Nat × Int32) => match u with | (V, A, F, P) => ([(d0, .inr (4, [.ref d1, .int (nI sz), .int (nI A), .int cl, .int (nI F), .int P, .ref e0])), (d1, .inl (D.1 101, 150, .inl (fun k => nI (t k))))] : va_W)) = Q
  refine g_aload_n hX dX3_readWidth_0 rfl ?_
  refine g_callFv (ws' := [(d0, .inr (4, [.ref d1, .int (nI sz), .int (nI (sk t sz pa)), .int cl, .int (nI fl), .int fa, .ref e0])), (d1, .inl (D.1 101, 150, .inl (fun k => nI (t k))))]) hX dX3_readWidth_1 cw_X3_42 (ct_X3_skipBlanks  (by omega) (by first | with_reducible assumption | assumption) (by omega)) 0 4 [0, 1] rfl rfl rfl rfl (by decide) rfl rfl ⟨by decide, by decide⟩ (Nat.le_of_ble_eq_true rfl) (Nat.le_refl _) (Nat.le_refl _) rfl ?_
  have hb0 := sk_le (t := t) hpa
  refine g_aload_n hX dX3_readWidth_4 rfl ?_
  refine g_aload_n hX dX3_readWidth_5 rfl ?_
  refine g_getf hX dX3_readWidth_6 fk_X3_19 0 rfl rfl ?_
  refine g_callRi hX dX3_readWidth_9 cw_X3_132 (ct_X3_isFigure  (by omega) (by first | with_reducible assumption | assumption) (by omega)) 0 4 [0, 1] rfl rfl rfl rfl (by decide) rfl ⟨by decide, by decide⟩ (Nat.le_of_ble_eq_true rfl) (Nat.le_refl _) (Nat.le_refl _) ?_
  refine g_ifb_eq (tgt := 29) hX dX3_readWidth_12 (by decide) (fun h12 => ?_) (fun h12 => ?_)
  · skip
    refine g_aload_n hX dX3_readWidth_29 rfl ?_
    refine g_iconst hX dX3_readWidth_30 kn_i_1 ?_
    refine g_aload_n hX dX3_readWidth_31 rfl ?_
    refine g_getf hX dX3_readWidth_32 fk_X3_19 0 rfl rfl ?_
    refine g_call hX dX3_readWidth_35 cw_X3_83 (ct_X3_fail  (by omega)) 0 4 [0] rfl rfl rfl rfl (by decide) rfl (fun ⟨_, _⟩ => rfl) ⟨by decide, by decide⟩ (Nat.le_of_ble_eq_true rfl) ⟨Nat.le_refl _, Nat.le_refl _⟩ (fun v u hp => ?_)
    obtain ⟨F35, P35⟩ := u
    obtain ⟨rfl, hs35⟩ := hp
    show G X Q [(d0, .inr (4, [.ref d1, .int (nI sz), .int (nI (sk t sz pa)), .int cl, .int (nI F35), .int P35, .ref e0])), (d1, .inl (D.1 101, 150, .inl (fun k => nI (t k))))] 0 0 38 [some (.ref d0), none] []
    refine g_iconst hX dX3_readWidth_38 kn_i_0 ?_
    subst hQ
    exact g_zretU hX dX3_readWidth_39 (vp_nar_int _) (0, (sk t sz pa), F35, P35) (⟨rfl, flt_fail hb0 (if_neg (fun q => by rw [q.1] at h12; cases h12)) (by decide) hs35, by omega⟩) rfl (Nat.le_refl _) (Nat.le_refl _)
  · skip
    have hfi := figO_in h12
    refine g_aload_n hX dX3_readWidth_15 rfl ?_
    refine g_getf hX dX3_readWidth_16 fk_X3_9 0 rfl rfl ?_
    refine g_aload_n hX dX3_readWidth_19 rfl ?_
    refine g_getf hX dX3_readWidth_20 fk_X3_19 0 rfl rfl ?_
    refine g_cald hX dX3_readWidth_23 1 rfl (by decide) (by omega) ?_
    refine g_top (v' := nI (t (sk t sz pa))) rfl ?_
    have hct23 := ht (sk t sz pa)
    refine g_bipush hX dX3_readWidth_24 kn_b_48 ?_
    refine g_icmpN_ne (tgt := 40) hX dX3_readWidth_26 (by decide) (by omega) (by omega) (fun h26 => ?_) (fun h26 => ?_)
    · skip
      refine g_aload_n hX dX3_readWidth_40 rfl ?_
      refine g_getf hX dX3_readWidth_41 fk_X3_9 0 rfl rfl ?_
      refine g_aload_n hX dX3_readWidth_44 rfl ?_
      refine g_getf hX dX3_readWidth_45 fk_X3_19 0 rfl rfl ?_
      refine g_cald hX dX3_readWidth_48 1 rfl (by decide) (by omega) ?_
      refine g_top (v' := nI (t (sk t sz pa))) rfl ?_
      have hct48 := ht (sk t sz pa)
      refine g_bipush hX dX3_readWidth_49 kn_b_48 ?_
      refine g_isubN hX dX3_readWidth_51 (by omega) ?_
      refine g_istore_n (L' := [some (.ref d0), some (.int (nI ((t (sk t sz pa)) - 48)))]) hX dX3_readWidth_52 (by decide) rfl ?_
      refine g_aload_n hX dX3_readWidth_53 rfl ?_
      refine g_dup hX dX3_readWidth_54 rfl ?_
      refine g_getf hX dX3_readWidth_55 fk_X3_19 0 rfl rfl ?_
      refine g_iconst hX dX3_readWidth_58 kn_i_1 ?_
      refine g_iaddN hX dX3_readWidth_59 ?_
      refine g_puti (ws' := [(d0, .inr (4, [.ref d1, .int (nI sz), .int (nI ((sk t sz pa) + 1)), .int cl, .int (nI fl), .int fa, .ref e0])), (d1, .inl (D.1 101, 150, .inl (fun k => nI (t k))))]) hX dX3_readWidth_60 fp_X3_19 0 rfl (Nat.le_of_ble_eq_true rfl) rfl ?_
      refine g_iload_n hX dX3_readWidth_63 rfl ?_
      subst hQ
      exact g_zretU hX dX3_readWidth_64 (vp_nar_int _) ((t (sk t sz pa)) - 48, (sk t sz pa) + 1, fl, fa) (⟨rfl, flt_pass (by omega) (if_pos ⟨h12, by omega⟩) ⟨rfl, rfl⟩, by omega⟩) rfl (Nat.le_refl _) (Nat.le_refl _)
    · skip
      refine g_aload_n hX dX3_readWidth_29 rfl ?_
      refine g_iconst hX dX3_readWidth_30 kn_i_1 ?_
      refine g_aload_n hX dX3_readWidth_31 rfl ?_
      refine g_getf hX dX3_readWidth_32 fk_X3_19 0 rfl rfl ?_
      refine g_call hX dX3_readWidth_35 cw_X3_83 (ct_X3_fail  (by omega)) 0 4 [0] rfl rfl rfl rfl (by decide) rfl (fun ⟨_, _⟩ => rfl) ⟨by decide, by decide⟩ (Nat.le_of_ble_eq_true rfl) ⟨Nat.le_refl _, Nat.le_refl _⟩ (fun v u hp => ?_)
      obtain ⟨F35, P35⟩ := u
      obtain ⟨rfl, hs35⟩ := hp
      show G X Q [(d0, .inr (4, [.ref d1, .int (nI sz), .int (nI (sk t sz pa)), .int cl, .int (nI F35), .int P35, .ref e0])), (d1, .inl (D.1 101, 150, .inl (fun k => nI (t k))))] 0 0 38 [some (.ref d0), none] []
      refine g_iconst hX dX3_readWidth_38 kn_i_0 ?_
      subst hQ
      exact g_zretU hX dX3_readWidth_39 (vp_nar_int _) (0, (sk t sz pa), F35, P35) (⟨rfl, flt_fail hb0 (if_neg (fun q => by have := q.2; omega)) (by decide) hs35, by omega⟩) rfl (Nat.le_refl _) (Nat.le_refl _)
set_option maxRecDepth 100000 in
set_option maxHeartbeats 4000000 in
theorem ct_X3_readEdge {l : Launch} {D : va_G} {d0 d1 e0 sz pa fl : Nat} {cl fa : Int32} {t : Nat → Nat} (hsz : sz ≤ 150) (ht : ∀ k, t k < 256) (hpa : pa ≤ sz) (hfl : fl < 100) : Ct (S := Nat × Nat × Nat × Int32) l D yX3_readEdge cX3_readEdge 3 (some .int) 1 22 0 0 [.ref d0] [(d0, .inr (4, [.ref d1, .int (nI sz), .int (nI pa), .int cl, .int (nI fl), .int fa, .ref e0])), (d1, .inl (D.1 101, 150, .inl (fun k => nI (t k))))] (fun (rv : Option Value) (u : Nat × Nat × Nat × Int32) => match u with | (V, A, F, P) => rv = (some (.int (nI V))) ∧ (fltP fl fa F P A sz (qEdge t sz pa) (fun p => A = p + 5 ∧ V = vN t p 5 ∧ ∀ i, i < 5 → figO (hereO t sz (p + i)) = true)) ∧ (V ≤ 99999)) (fun (u : Nat × Nat × Nat × Int32) => match u with | (V, A, F, P) => ([(d0, .inr (4, [.ref d1, .int (nI sz), .int (nI A), .int cl, .int (nI F), .int P, .ref e0])), (d1, .inl (D.1 101, 150, .inl (fun k => nI (t k))))] : va_W)) := by
  refine Ct.ofG (by decide) (Nat.le_of_ble_eq_true rfl) ?_
  intro X hX
  have hX : CX X l D RX3 "readEdge" cX3_readEdge 3 (some .int) 1 22 0 0 := hX
  show G X (QM X 0 0 (fun (rv : Option Value) (u : Nat × Nat × Nat × Int32) => match u with | (V, A, F, P) => rv = (some (.int (nI V))) ∧ (fltP fl fa F P A sz (qEdge t sz pa) (fun p => A = p + 5 ∧ V = vN t p 5 ∧ ∀ i, i < 5 → figO (hereO t sz (p + i)) = true)) ∧ (V ≤ 99999)) (fun (u : Nat × Nat × Nat × Int32) => match u with | (V, A, F, P) => ([(d0, .inr (4, [.ref d1, .int (nI sz), .int (nI A), .int cl, .int (nI F), .int P, .ref e0])), (d1, .inl (D.1 101, 150, .inl (fun k => nI (t k))))] : va_W))) [(d0, .inr (4, [.ref d1, .int (nI sz), .int (nI pa), .int cl, .int (nI fl), .int fa, .ref e0])), (d1, .inl (D.1 101, 150, .inl (fun k => nI (t k))))] 0 0 0 [some (.ref d0), none, none] []
  generalize hQ : QM X 0 0 (fun (rv : Option Value) (u : Nat × Nat × Nat × Int32) => match u with | (V, A, F, P) => rv = (some (.int (nI V))) ∧ (fltP fl fa F P A sz (qEdge t sz pa) (fun p => A = p + 5 ∧ V = vN t p 5 ∧ ∀ i, i < 5 → figO (hereO t sz (p + i)) = true)) ∧ (V ≤ 99999)) (fun (u : Nat × Nat × Nat × Int32) => match u with | (V, A, F, P) => ([(d0, .inr (4, [.ref d1, .int (nI sz), .int (nI A), .int cl, .int (nI F), .int P, .ref e0])), (d1, .inl (D.1 101, 150, .inl (fun k => nI (t k))))] : va_W)) = Q
  refine g_aload_n hX dX3_readEdge_0 rfl ?_
  refine g_callFv (ws' := [(d0, .inr (4, [.ref d1, .int (nI sz), .int (nI (sk t sz pa)), .int cl, .int (nI fl), .int fa, .ref e0])), (d1, .inl (D.1 101, 150, .inl (fun k => nI (t k))))]) hX dX3_readEdge_1 cw_X3_42 (ct_X3_skipBlanks  (by omega) (by first | with_reducible assumption | assumption) (by omega)) 0 4 [0, 1] rfl rfl rfl rfl (by decide) rfl rfl ⟨by decide, by decide⟩ (Nat.le_of_ble_eq_true rfl) (Nat.le_refl _) (Nat.le_refl _) rfl ?_
  have hb0 := sk_le (t := t) hpa
  refine g_iconst hX dX3_readEdge_4 kn_i_0 ?_
  refine g_istore_n (L' := [some (.ref d0), some (.int (nI 0)), none]) hX dX3_readEdge_5 (by decide) rfl ?_
  refine g_iconst hX dX3_readEdge_6 kn_i_0 ?_
  refine g_istore_n (L' := [some (.ref d0), some (.int (nI 0)), some (.int (nI 0))]) hX dX3_readEdge_7 (by decide) rfl ?_
  have loop8 : ∀ z : Nat × Nat × Nat × Nat × Int32, match z with | (h, q, v, F1, P1) => (h ≤ 5) → (edI t sz (sk t sz pa) fl fa h q v F1 P1) → G X Q [(d0, .inr (4, [.ref d1, .int (nI sz), .int (nI q), .int cl, .int (nI F1), .int P1, .ref e0])), (d1, .inl (D.1 101, 150, .inl (fun k => nI (t k))))] 0 0 8 [some (.ref d0), some (.int (nI v)), some (.int (nI h))] [] := by
    refine loopM (fun z : Nat × Nat × Nat × Nat × Int32 => match z with | (h, q, v, F1, P1) => 5 - h) (fun z ih8 => ?_)
    obtain ⟨h, q, v, F1, P1⟩ := z
    intro hh he
    have hq1 := he.1
    have hv1 := he.2.1
    have hF1 := he.2.2.1
    refine g_iload_n hX dX3_readEdge_8 rfl ?_
    refine g_iconst hX dX3_readEdge_9 kn_i_5 ?_
    refine g_icmpN_ge (tgt := 77) hX dX3_readEdge_10 (by decide) (by omega) (by omega) (fun h10 => ?_) (fun h10 => ?_)
    · skip
      refine g_iload_n hX dX3_readEdge_77 rfl ?_
      subst hQ
      exact g_zretU hX dX3_readEdge_78 (vp_nar_int _) (v, q, F1, P1) (⟨rfl, he.end5 (by omega), hv1⟩) rfl (Nat.le_refl _) (Nat.le_refl _)
    · skip
      refine g_aload_n hX dX3_readEdge_13 rfl ?_
      refine g_getf hX dX3_readEdge_14 fk_X3_25 0 rfl rfl ?_
      refine g_ifN_ne (tgt := 77) hX dX3_readEdge_17 (by decide) (by omega) (fun h17 => ?_) (fun h17 => ?_)
      · skip
        refine g_iload_n hX dX3_readEdge_77 rfl ?_
        subst hQ
        exact g_zretU hX dX3_readEdge_78 (vp_nar_int _) (v, q, F1, P1) (⟨rfl, he.endF h17, hv1⟩) rfl (Nat.le_refl _) (Nat.le_refl _)
      · skip
        refine g_aload_n hX dX3_readEdge_20 rfl ?_
        refine g_aload_n hX dX3_readEdge_21 rfl ?_
        refine g_getf hX dX3_readEdge_22 fk_X3_19 0 rfl rfl ?_
        refine g_callRi hX dX3_readEdge_25 cw_X3_132 (ct_X3_isFigure  (by omega) (by first | with_reducible assumption | assumption) (by omega)) 0 4 [0, 1] rfl rfl rfl rfl (by decide) rfl ⟨by decide, by decide⟩ (Nat.le_of_ble_eq_true rfl) (Nat.le_refl _) (Nat.le_refl _) ?_
        refine g_ifb_eq (tgt := 62) hX dX3_readEdge_28 (by decide) (fun h28 => ?_) (fun h28 => ?_)
        · skip
          refine g_aload_n hX dX3_readEdge_62 rfl ?_
          refine g_iconst hX dX3_readEdge_63 kn_i_1 ?_
          refine g_aload_n hX dX3_readEdge_64 rfl ?_
          refine g_getf hX dX3_readEdge_65 fk_X3_19 0 rfl rfl ?_
          refine g_call hX dX3_readEdge_68 cw_X3_83 (ct_X3_fail  (by omega)) 0 4 [0] rfl rfl rfl rfl (by decide) rfl (fun ⟨_, _⟩ => rfl) ⟨by decide, by decide⟩ (Nat.le_of_ble_eq_true rfl) ⟨Nat.le_refl _, Nat.le_refl _⟩ (fun v u hp => ?_)
          obtain ⟨F68, P68⟩ := u
          obtain ⟨rfl, hs68⟩ := hp
          show G X Q [(d0, .inr (4, [.ref d1, .int (nI sz), .int (nI q), .int cl, .int (nI F68), .int P68, .ref e0])), (d1, .inl (D.1 101, 150, .inl (fun k => nI (t k))))] 0 0 71 [some (.ref d0), some (.int (nI v)), some (.int (nI h))] []
          refine g_iincN (L' := [some (.ref d0), some (.int (nI v)), some (.int (nI (h + 1)))]) hX dX3_readEdge_71 rfl (by decide) rfl ?_
          refine g_goto (tgt := 8) hX dX3_readEdge_74 (by decide) ?_
          exact g_fin (ih8 (h + 1, q, v, F68, P68) (by show 5 - (h + 1) < 5 - h; omega) (by omega) (he.bad (by omega) h17 h28 hs68)) (rfl) rfl ⟨rfl, rfl, rfl, trivial⟩
        · skip
          have hfi := figO_in h28
          refine g_bipush hX dX3_readEdge_31 kn_b_10 ?_
          refine g_iload_n hX dX3_readEdge_33 rfl ?_
          refine g_imulN hX dX3_readEdge_34 ?_
          refine g_aload_n hX dX3_readEdge_35 rfl ?_
          refine g_getf hX dX3_readEdge_36 fk_X3_9 0 rfl rfl ?_
          refine g_aload_n hX dX3_readEdge_39 rfl ?_
          refine g_getf hX dX3_readEdge_40 fk_X3_19 0 rfl rfl ?_
          refine g_cald hX dX3_readEdge_43 1 rfl (by decide) (by omega) ?_
          refine g_top (v' := nI (t q)) rfl ?_
          have hct43 := ht q
          refine g_iaddN hX dX3_readEdge_44 ?_
          refine g_bipush hX dX3_readEdge_45 kn_b_48 ?_
          refine g_isubN hX dX3_readEdge_47 (by omega) ?_
          refine g_istore_n (L' := [some (.ref d0), some (.int (nI (((10 * v) + (t q)) - 48))), some (.int (nI h))]) hX dX3_readEdge_48 (by decide) rfl ?_
          refine g_aload_n hX dX3_readEdge_49 rfl ?_
          refine g_dup hX dX3_readEdge_50 rfl ?_
          refine g_getf hX dX3_readEdge_51 fk_X3_19 0 rfl rfl ?_
          refine g_iconst hX dX3_readEdge_54 kn_i_1 ?_
          refine g_iaddN hX dX3_readEdge_55 ?_
          refine g_puti (ws' := [(d0, .inr (4, [.ref d1, .int (nI sz), .int (nI (q + 1)), .int cl, .int (nI F1), .int P1, .ref e0])), (d1, .inl (D.1 101, 150, .inl (fun k => nI (t k))))]) hX dX3_readEdge_56 fp_X3_19 0 rfl (Nat.le_of_ble_eq_true rfl) rfl ?_
          refine g_goto (tgt := 71) hX dX3_readEdge_59 (by decide) ?_
          refine g_iincN (L' := [some (.ref d0), some (.int (nI (((10 * v) + (t q)) - 48))), some (.int (nI (h + 1)))]) hX dX3_readEdge_71 rfl (by decide) rfl ?_
          refine g_goto (tgt := 8) hX dX3_readEdge_74 (by decide) ?_
          exact g_fin (ih8 (h + 1, q + 1, ((10 * v) + (t q)) - 48, F1, P1) (by show 5 - (h + 1) < 5 - h; omega) (by omega) (he.fig (by omega) h17 h28)) (rfl) rfl ⟨rfl, rfl, rfl, trivial⟩
  exact g_fin (loop8 (0, sk t sz pa, 0, fl, fa) (by omega) (edI_0 hb0 hfl)) (rfl) rfl ⟨rfl, rfl, rfl, trivial⟩
set_option maxRecDepth 100000 in
set_option maxHeartbeats 4000000 in
theorem ct_X3_take {l : Launch} {D : va_G} {d0 d1 e0 sz pa fl : Nat} {cl fa : Int32} {t : Nat → Nat} {x : Nat} (hsz : sz ≤ 150) (hx : x < 256) : Ct (S := Bool × (Nat → Nat) × Nat) l D yX3_take cX3_take 2 (some .boolean) 0 0 0 0 [.ref d0, .int (nI x)] [(d0, .inr (4, [.ref d1, .int (nI sz), .int (nI pa), .int cl, .int (nI fl), .int fa, .ref e0])), (d1, .inl (D.1 101, 150, .inl (fun k => nI (t k))))] (fun (rv : Option Value) (u : Bool × (Nat → Nat) × Nat) => match u with | (b, T, Z) => rv = (some (.int (bI b))) ∧ ((b, T, Z) = (if sz = 150 then (false, t, sz) else (true, updN t sz x, sz + 1)))) (fun (u : Bool × (Nat → Nat) × Nat) => match u with | (b, T, Z) => ([(d0, .inr (4, [.ref d1, .int (nI Z), .int (nI pa), .int cl, .int (nI fl), .int fa, .ref e0])), (d1, .inl (D.1 101, 150, .inl (fun k => nI (T k))))] : va_W)) := by
  refine Ct.ofG (by decide) (Nat.le_of_ble_eq_true rfl) ?_
  intro X hX
  have hX : CX X l D RX3 "take" cX3_take 2 (some .boolean) 0 0 0 0 := hX
  show G X (QM X 0 0 (fun (rv : Option Value) (u : Bool × (Nat → Nat) × Nat) => match u with | (b, T, Z) => rv = (some (.int (bI b))) ∧ ((b, T, Z) = (if sz = 150 then (false, t, sz) else (true, updN t sz x, sz + 1)))) (fun (u : Bool × (Nat → Nat) × Nat) => match u with | (b, T, Z) => ([(d0, .inr (4, [.ref d1, .int (nI Z), .int (nI pa), .int cl, .int (nI fl), .int fa, .ref e0])), (d1, .inl (D.1 101, 150, .inl (fun k => nI (T k))))] : va_W))) [(d0, .inr (4, [.ref d1, .int (nI sz), .int (nI pa), .int cl, .int (nI fl), .int fa, .ref e0])), (d1, .inl (D.1 101, 150, .inl (fun k => nI (t k))))] 0 0 0 [some (.ref d0), some (.int (nI x))] []
  generalize hQ : QM X 0 0 (fun (rv : Option Value) (u : Bool × (Nat → Nat) × Nat) => match u with | (b, T, Z) => rv = (some (.int (bI b))) ∧ ((b, T, Z) = (if sz = 150 then (false, t, sz) else (true, updN t sz x, sz + 1)))) (fun (u : Bool × (Nat → Nat) × Nat) => match u with | (b, T, Z) => ([(d0, .inr (4, [.ref d1, .int (nI Z), .int (nI pa), .int cl, .int (nI fl), .int fa, .ref e0])), (d1, .inl (D.1 101, 150, .inl (fun k => nI (T k))))] : va_W)) = Q
  refine g_aload_n hX dX3_take_0 rfl ?_
  refine g_getf hX dX3_take_1 fk_X3_15 0 rfl rfl ?_
  refine g_sipush hX dX3_take_4 kn_s_150 ?_
  refine g_icmpN_lt (tgt := 12) hX dX3_take_7 (by decide) (by omega) (by omega) (fun h7 => ?_) (fun h7 => ?_)
  · skip
    refine g_aload_n hX dX3_take_12 rfl ?_
    refine g_getf hX dX3_take_13 fk_X3_9 0 rfl rfl ?_
    refine g_aload_n hX dX3_take_16 rfl ?_
    refine g_getf hX dX3_take_17 fk_X3_15 0 rfl rfl ?_
    refine g_iload_n hX dX3_take_20 rfl ?_
    refine g_i2c hX dX3_take_21 (sb_byte x hx).2.1 ?_
    refine g_cast (ws' := [(d0, .inr (4, [.ref d1, .int (nI sz), .int (nI pa), .int cl, .int (nI fl), .int fa, .ref e0])), (d1, .inl (D.1 101, 150, .inl (upd (fun k => nI (t k)) sz (nI x))))]) hX dX3_take_22 1 rfl (by decide) (by omega) (nar_char hx) rfl ?_
    rw [upd_nI]
    refine g_aload_n hX dX3_take_23 rfl ?_
    refine g_dup hX dX3_take_24 rfl ?_
    refine g_getf hX dX3_take_25 fk_X3_15 0 rfl rfl ?_
    refine g_iconst hX dX3_take_28 kn_i_1 ?_
    refine g_iaddN hX dX3_take_29 ?_
    refine g_puti (ws' := [(d0, .inr (4, [.ref d1, .int (nI (sz + 1)), .int (nI pa), .int cl, .int (nI fl), .int fa, .ref e0])), (d1, .inl (D.1 101, 150, .inl (fun k => nI (updN t sz x k))))]) hX dX3_take_30 fp_X3_15 0 rfl (Nat.le_of_ble_eq_true rfl) rfl ?_
    refine g_iconst hX dX3_take_33 kn_i_1 ?_
    subst hQ
    exact g_zretU hX dX3_take_34 (by exact bI_nar true) (true, (updN t sz x), sz + 1) (⟨rfl, by rw [if_neg (by omega)]⟩) rfl (Nat.le_refl _) (Nat.le_refl _)
  · skip
    refine g_iconst hX dX3_take_10 kn_i_0 ?_
    subst hQ
    exact g_zretU hX dX3_take_11 (by exact bI_nar false) (false, t, sz) (⟨rfl, by rw [if_pos (by omega)]⟩) rfl (Nat.le_refl _) (Nat.le_refl _)
