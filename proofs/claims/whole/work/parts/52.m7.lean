set_option maxRecDepth 100000 in
set_option maxHeartbeats 4000000 in
theorem ct_X7_here {l : Launch} {D : va_G} {a0 a1 a2 a3 a4 a5 a6 a7 a8 a9 a10 uk sz wr pa fl ln : Nat} {kp sd fa : Int32} {t : Nat → Nat} (hsz : sz ≤ 150) (hpa : pa ≤ sz) (hfl : fl < 100) (ht : ∀ k, t k < 256) : Cf l D yX7_here cX7_here 1 (some .int) 0 0 [.ref a0] [(a0, .inr (8, [.ref a1, .int (nI uk), .int kp, .int sd, .ref a2, .ref a3, .int (nI sz), .int fa, .ref a4, .ref a5, .ref a6, .int (nI wr), .ref a7, .ref a8, .int (nI pa), .int (nI fl), .ref a9, .int (nI ln), .ref a10])), (a3, .inl (D.1 100, 150, .inl (fun k => nI (t k))))] (some (.int (oI (hereO t sz pa)))) [(a0, .inr (8, [.ref a1, .int (nI uk), .int kp, .int sd, .ref a2, .ref a3, .int (nI sz), .int fa, .ref a4, .ref a5, .ref a6, .int (nI wr), .ref a7, .ref a8, .int (nI pa), .int (nI fl), .ref a9, .int (nI ln), .ref a10])), (a3, .inl (D.1 100, 150, .inl (fun k => nI (t k))))] := by
  refine Ct.ofG (by decide) (Nat.le_of_ble_eq_true rfl) ?_
  intro X hX
  have hX : CX X l D RX7 "here" cX7_here 1 (some .int) 0 0 0 0 := hX
  show G X (QF X (some (.int (oI (hereO t sz pa)))) [(a0, .inr (8, [.ref a1, .int (nI uk), .int kp, .int sd, .ref a2, .ref a3, .int (nI sz), .int fa, .ref a4, .ref a5, .ref a6, .int (nI wr), .ref a7, .ref a8, .int (nI pa), .int (nI fl), .ref a9, .int (nI ln), .ref a10])), (a3, .inl (D.1 100, 150, .inl (fun k => nI (t k))))]) [(a0, .inr (8, [.ref a1, .int (nI uk), .int kp, .int sd, .ref a2, .ref a3, .int (nI sz), .int fa, .ref a4, .ref a5, .ref a6, .int (nI wr), .ref a7, .ref a8, .int (nI pa), .int (nI fl), .ref a9, .int (nI ln), .ref a10])), (a3, .inl (D.1 100, 150, .inl (fun k => nI (t k))))] 0 0 0 [some (.ref a0)] []
  generalize hQ : QF X (some (.int (oI (hereO t sz pa)))) [(a0, .inr (8, [.ref a1, .int (nI uk), .int kp, .int sd, .ref a2, .ref a3, .int (nI sz), .int fa, .ref a4, .ref a5, .ref a6, .int (nI wr), .ref a7, .ref a8, .int (nI pa), .int (nI fl), .ref a9, .int (nI ln), .ref a10])), (a3, .inl (D.1 100, 150, .inl (fun k => nI (t k))))] = Q
  refine g_aload_n hX dX7_here_0 rfl ?_
  refine g_getf hX dX7_here_1 fk_X7_132 0 rfl rfl ?_
  refine g_aload_n hX dX7_here_4 rfl ?_
  refine g_getf hX dX7_here_5 fk_X7_135 0 rfl rfl ?_
  refine g_icmpN_ge (tgt := 23) hX dX7_here_8 (by decide) (by omega) (by omega) (fun h8 => ?_) (fun h8 => ?_)
  · skip
    refine g_iconst hX dX7_here_23 kn_i_m1 ?_
    subst hQ
    exact g_iret hX dX7_here_24 (iR (by unfold hereO; rw [if_pos h8]; rfl)) (rfl) rfl rfl
  · skip
    refine g_aload_n hX dX7_here_11 rfl ?_
    refine g_getf hX dX7_here_12 fk_X7_16 0 rfl rfl ?_
    refine g_aload_n hX dX7_here_15 rfl ?_
    refine g_getf hX dX7_here_16 fk_X7_132 0 rfl rfl ?_
    refine g_iald hX dX7_here_19 1 rfl (by decide) (by omega) ?_
    show G X Q [(a0, .inr (8, [.ref a1, .int (nI uk), .int kp, .int sd, .ref a2, .ref a3, .int (nI sz), .int fa, .ref a4, .ref a5, .ref a6, .int (nI wr), .ref a7, .ref a8, .int (nI pa), .int (nI fl), .ref a9, .int (nI ln), .ref a10])), (a3, .inl (D.1 100, 150, .inl (fun k => nI (t k))))] 0 0 20 [some (.ref a0)] [.int (nI (t pa))]
    refine g_goto (tgt := 24) hX dX7_here_20 (by decide) ?_
    subst hQ
    exact g_iret hX dX7_here_24 (iR (by unfold hereO; rw [if_neg h8]; rfl)) (rfl) rfl rfl
set_option maxRecDepth 100000 in
set_option maxHeartbeats 4000000 in
theorem ct_X7_fail {l : Launch} {D : va_G} {a0 a1 a2 a3 a4 a5 a6 a7 a8 a9 a10 uk sz wr pa fl ln : Nat} {kp sd fa : Int32} {n : Nat} {p : Int32} (hfl : fl < 100) : Ct (S := Nat × Int32) l D yX7_fail cX7_fail 3 none 0 0 0 0 [.ref a0, .int (nI n), .int p] [(a0, .inr (8, [.ref a1, .int (nI uk), .int kp, .int sd, .ref a2, .ref a3, .int (nI sz), .int fa, .ref a4, .ref a5, .ref a6, .int (nI wr), .ref a7, .ref a8, .int (nI pa), .int (nI fl), .ref a9, .int (nI ln), .ref a10]))] (fun (r : Option Value) (u : Nat × Int32) => match u with | (F, P) => r = none ∧ ((fl = 0 → F = n ∧ P = p) ∧ (¬ fl = 0 → F = fl ∧ P = fa))) (fun (u : Nat × Int32) => match u with | (F, P) => ([(a0, .inr (8, [.ref a1, .int (nI uk), .int kp, .int sd, .ref a2, .ref a3, .int (nI sz), .int P, .ref a4, .ref a5, .ref a6, .int (nI wr), .ref a7, .ref a8, .int (nI pa), .int (nI F), .ref a9, .int (nI ln), .ref a10]))] : va_W)) := by
  refine Ct.ofG (by decide) (Nat.le_of_ble_eq_true rfl) ?_
  intro X hX
  have hX : CX X l D RX7 "fail" cX7_fail 3 none 0 0 0 0 := hX
  show G X (QM X 0 0 (fun (r : Option Value) (u : Nat × Int32) => match u with | (F, P) => r = none ∧ ((fl = 0 → F = n ∧ P = p) ∧ (¬ fl = 0 → F = fl ∧ P = fa))) (fun (u : Nat × Int32) => match u with | (F, P) => ([(a0, .inr (8, [.ref a1, .int (nI uk), .int kp, .int sd, .ref a2, .ref a3, .int (nI sz), .int P, .ref a4, .ref a5, .ref a6, .int (nI wr), .ref a7, .ref a8, .int (nI pa), .int (nI F), .ref a9, .int (nI ln), .ref a10]))] : va_W))) [(a0, .inr (8, [.ref a1, .int (nI uk), .int kp, .int sd, .ref a2, .ref a3, .int (nI sz), .int fa, .ref a4, .ref a5, .ref a6, .int (nI wr), .ref a7, .ref a8, .int (nI pa), .int (nI fl), .ref a9, .int (nI ln), .ref a10]))] 0 0 0 [some (.ref a0), some (.int (nI n)), some (.int p)] []
  generalize hQ : QM X 0 0 (fun (r : Option Value) (u : Nat × Int32) => match u with | (F, P) => r = none ∧ ((fl = 0 → F = n ∧ P = p) ∧ (¬ fl = 0 → F = fl ∧ P = fa))) (fun (u : Nat × Int32) => match u with | (F, P) => ([(a0, .inr (8, [.ref a1, .int (nI uk), .int kp, .int sd, .ref a2, .ref a3, .int (nI sz), .int P, .ref a4, .ref a5, .ref a6, .int (nI wr), .ref a7, .ref a8, .int (nI pa), .int (nI F), .ref a9, .int (nI ln), .ref a10]))] : va_W)) = Q
  refine g_aload_n hX dX7_fail_0 rfl ?_
  refine g_getf hX dX7_fail_1 fk_X7_138 0 rfl rfl ?_
  refine g_ifN_ne (tgt := 17) hX dX7_fail_4 (by decide) (by omega) (fun h4 => ?_) (fun h4 => ?_)
  · skip
    subst hQ
    exact g_vretU hX dX7_fail_17 (fl, fa) (⟨rfl, fun h => absurd h h4, fun _ => ⟨rfl, rfl⟩⟩) rfl (Nat.le_refl _) (Nat.le_refl _)
  · skip
    refine g_aload_n hX dX7_fail_7 rfl ?_
    refine g_iload_n hX dX7_fail_8 rfl ?_
    refine g_puti (ws' := [(a0, .inr (8, [.ref a1, .int (nI uk), .int kp, .int sd, .ref a2, .ref a3, .int (nI sz), .int fa, .ref a4, .ref a5, .ref a6, .int (nI wr), .ref a7, .ref a8, .int (nI pa), .int (nI n), .ref a9, .int (nI ln), .ref a10]))]) hX dX7_fail_9 fp_X7_138 0 rfl (Nat.le_of_ble_eq_true rfl) rfl ?_
    refine g_aload_n hX dX7_fail_12 rfl ?_
    refine g_iload_n hX dX7_fail_13 rfl ?_
    refine g_puti (ws' := [(a0, .inr (8, [.ref a1, .int (nI uk), .int kp, .int sd, .ref a2, .ref a3, .int (nI sz), .int p, .ref a4, .ref a5, .ref a6, .int (nI wr), .ref a7, .ref a8, .int (nI pa), .int (nI n), .ref a9, .int (nI ln), .ref a10]))]) hX dX7_fail_14 fp_X7_19 0 rfl (Nat.le_of_ble_eq_true rfl) rfl ?_
    subst hQ
    exact g_vretU hX dX7_fail_17 (n, p) (⟨rfl, fun _ => ⟨rfl, rfl⟩, fun h => absurd h4 h⟩) rfl (Nat.le_refl _) (Nat.le_refl _)
set_option maxRecDepth 100000 in
set_option maxHeartbeats 4000000 in
theorem ct_X7_skip {l : Launch} {D : va_G} {a0 a1 a2 a3 a4 a5 a6 a7 a8 a9 a10 uk sz wr pa fl ln : Nat} {kp sd fa : Int32} {t : Nat → Nat} (hsz : sz ≤ 150) (hpa : pa ≤ sz) (hfl : fl < 100) (ht : ∀ k, t k < 256) : Cf l D yX7_skip cX7_skip 1 none 1 20 [.ref a0] [(a0, .inr (8, [.ref a1, .int (nI uk), .int kp, .int sd, .ref a2, .ref a3, .int (nI sz), .int fa, .ref a4, .ref a5, .ref a6, .int (nI wr), .ref a7, .ref a8, .int (nI pa), .int (nI fl), .ref a9, .int (nI ln), .ref a10])), (a3, .inl (D.1 100, 150, .inl (fun k => nI (t k))))] none [(a0, .inr (8, [.ref a1, .int (nI uk), .int kp, .int sd, .ref a2, .ref a3, .int (nI sz), .int fa, .ref a4, .ref a5, .ref a6, .int (nI wr), .ref a7, .ref a8, .int (nI (sk t sz pa)), .int (nI fl), .ref a9, .int (nI ln), .ref a10])), (a3, .inl (D.1 100, 150, .inl (fun k => nI (t k))))] := by
  refine Ct.ofG (by decide) (Nat.le_of_ble_eq_true rfl) ?_
  intro X hX
  have hX : CX X l D RX7 "skip" cX7_skip 1 none 1 20 0 0 := hX
  show G X (QF X none [(a0, .inr (8, [.ref a1, .int (nI uk), .int kp, .int sd, .ref a2, .ref a3, .int (nI sz), .int fa, .ref a4, .ref a5, .ref a6, .int (nI wr), .ref a7, .ref a8, .int (nI (sk t sz pa)), .int (nI fl), .ref a9, .int (nI ln), .ref a10])), (a3, .inl (D.1 100, 150, .inl (fun k => nI (t k))))]) [(a0, .inr (8, [.ref a1, .int (nI uk), .int kp, .int sd, .ref a2, .ref a3, .int (nI sz), .int fa, .ref a4, .ref a5, .ref a6, .int (nI wr), .ref a7, .ref a8, .int (nI pa), .int (nI fl), .ref a9, .int (nI ln), .ref a10])), (a3, .inl (D.1 100, 150, .inl (fun k => nI (t k))))] 0 0 0 [some (.ref a0)] []
  generalize hQ : QF X none [(a0, .inr (8, [.ref a1, .int (nI uk), .int kp, .int sd, .ref a2, .ref a3, .int (nI sz), .int fa, .ref a4, .ref a5, .ref a6, .int (nI wr), .ref a7, .ref a8, .int (nI (sk t sz pa)), .int (nI fl), .ref a9, .int (nI ln), .ref a10])), (a3, .inl (D.1 100, 150, .inl (fun k => nI (t k))))] = Q
  have loop0 : ∀ p : Nat, p ≤ sz → (sk t sz pa = sk t sz p) → G X Q [(a0, .inr (8, [.ref a1, .int (nI uk), .int kp, .int sd, .ref a2, .ref a3, .int (nI sz), .int fa, .ref a4, .ref a5, .ref a6, .int (nI wr), .ref a7, .ref a8, .int (nI p), .int (nI fl), .ref a9, .int (nI ln), .ref a10])), (a3, .inl (D.1 100, 150, .inl (fun k => nI (t k))))] 0 0 0 [some (.ref a0)] [] := by
    refine loopN sz (fun p hh0 ih0 => ?_)
    intro hr
    refine g_aload_n hX dX7_skip_0 rfl ?_
    refine g_callRi hX dX7_skip_1 cw_X7_141 (ct_X7_here  (by omega) (by omega) (by omega) (by first | with_reducible assumption | assumption)) 0 8 [0, 1] rfl rfl rfl rfl (by decide) rfl ⟨by decide, by decide⟩ (Nat.le_of_ble_eq_true rfl) (Nat.le_refl _) (Nat.le_refl _) ?_
    refine g_bipush hX dX7_skip_4 kn_b_32 ?_
    refine g_icmp_ne (tgt := 22) hX dX7_skip_6 (by decide) (fun h6 => ?_) (fun h6 => ?_)
    · skip
      have hp : ¬ hereO t sz p = some 32 := fun q => h6 ((oI_eq (smallO_here ht) (by omega)).mpr q)
      subst hQ
      exact g_vret hX dX7_skip_22 rfl (by rw [hr, sk_stop hp]) rfl rfl
    · skip
      have hp : hereO t sz p = some 32 := (oI_eq (smallO_here ht) (by omega)).mp h6
      have hps := (hereO_some hp).1
      refine g_aload_n hX dX7_skip_9 rfl ?_
      refine g_dup hX dX7_skip_10 rfl ?_
      refine g_getf hX dX7_skip_11 fk_X7_132 0 rfl rfl ?_
      refine g_iconst hX dX7_skip_14 kn_i_1 ?_
      refine g_iaddN hX dX7_skip_15 ?_
      refine g_puti (ws' := [(a0, .inr (8, [.ref a1, .int (nI uk), .int kp, .int sd, .ref a2, .ref a3, .int (nI sz), .int fa, .ref a4, .ref a5, .ref a6, .int (nI wr), .ref a7, .ref a8, .int (nI (p + 1)), .int (nI fl), .ref a9, .int (nI ln), .ref a10])), (a3, .inl (D.1 100, 150, .inl (fun k => nI (t k))))]) hX dX7_skip_16 fp_X7_132 0 rfl (Nat.le_of_ble_eq_true rfl) rfl ?_
      refine g_goto (tgt := 0) hX dX7_skip_19 (by decide) ?_
      exact g_fin (ih0 (by omega) (hr.trans (sk_step hp))) (rfl) rfl ⟨rfl, trivial⟩
  exact g_fin (loop0 pa (by omega) rfl) (rfl) rfl ⟨rfl, trivial⟩
set_option maxRecDepth 100000 in
set_option maxHeartbeats 4000000 in
theorem ct_X7_isFigure {l : Launch} {D : va_G} {o : Option Nat} (ho : smallO o) : Cf l D yX7_isFigure cX7_isFigure 1 (some .boolean) 1 25 [.int (oI o)] [] (some (.int (bI (figO o)))) [] := by
  refine Ct.ofG (by decide) (Nat.le_of_ble_eq_true rfl) ?_
  intro X hX
  have hX : CX X l D RX7 "isFigure" cX7_isFigure 1 (some .boolean) 1 25 0 0 := hX
  show G X (QF X (some (.int (bI (figO o)))) []) [] 0 0 0 [some (.int (oI o))] []
  generalize hQ : QF X (some (.int (bI (figO o)))) [] = Q
  refine g_iload_n hX dX7_isFigure_0 rfl ?_
  refine g_i2l hX dX7_isFigure_1 ?_
  refine g_ldc2 hX dX7_isFigure_2 kc_X7_145 ?_
  refine g_ldc2 hX dX7_isFigure_5 kc_X7_147 ?_
  refine g_callSRi hX dX7_isFigure_8 cw_X7_53 ct_X7_in [] rfl rfl (by decide) rfl ⟨by decide, by decide⟩ (Nat.le_of_ble_eq_true rfl) (Nat.le_refl _) (Nat.le_refl _) ?_
  subst hQ
  exact g_zret _ hX dX7_isFigure_11 rfl (bR (by rw [show (48 : Int64) = lN 48 from rfl, show (57 : Int64) = lN 57 from rfl, inB_o ho (by omega) (by omega)]; cases o <;> rfl)) (rfl) rfl rfl
set_option maxRecDepth 100000 in
set_option maxHeartbeats 4000000 in
theorem ct_X7_isSmall {l : Launch} {D : va_G} {o : Option Nat} (ho : smallO o) : Cf l D yX7_isSmall cX7_isSmall 1 (some .boolean) 1 25 [.int (oI o)] [] (some (.int (bI (smlO o)))) [] := by
  refine Ct.ofG (by decide) (Nat.le_of_ble_eq_true rfl) ?_
  intro X hX
  have hX : CX X l D RX7 "isSmall" cX7_isSmall 1 (some .boolean) 1 25 0 0 := hX
  show G X (QF X (some (.int (bI (smlO o)))) []) [] 0 0 0 [some (.int (oI o))] []
  generalize hQ : QF X (some (.int (bI (smlO o)))) [] = Q
  refine g_iload_n hX dX7_isSmall_0 rfl ?_
  refine g_i2l hX dX7_isSmall_1 ?_
  refine g_ldc2 hX dX7_isSmall_2 kc_X7_149 ?_
  refine g_ldc2 hX dX7_isSmall_5 kc_X7_151 ?_
  refine g_callSRi hX dX7_isSmall_8 cw_X7_53 ct_X7_in [] rfl rfl (by decide) rfl ⟨by decide, by decide⟩ (Nat.le_of_ble_eq_true rfl) (Nat.le_refl _) (Nat.le_refl _) ?_
  subst hQ
  exact g_zret _ hX dX7_isSmall_11 rfl (bR (by rw [show (97 : Int64) = lN 97 from rfl, show (122 : Int64) = lN 122 from rfl, inB_o ho (by omega) (by omega)]; cases o <;> rfl)) (rfl) rfl rfl
set_option maxRecDepth 100000 in
set_option maxHeartbeats 4000000 in
theorem ct_X7_want {l : Launch} {D : va_G} {a0 a1 a2 a3 a4 a5 a6 a7 a8 a9 a10 uk sz wr pa fl ln : Nat} {kp sd fa : Int32} {t : Nat → Nat} {ch : Nat} (hsz : sz ≤ 150) (hpa : pa ≤ sz) (hfl : fl < 100) (ht : ∀ k, t k < 256) (hch : ch < 256) : Ct (S := Nat × Nat × Int32) l D yX7_want cX7_want 2 none 2 40 0 0 [.ref a0, .int (nI ch)] [(a0, .inr (8, [.ref a1, .int (nI uk), .int kp, .int sd, .ref a2, .ref a3, .int (nI sz), .int fa, .ref a4, .ref a5, .ref a6, .int (nI wr), .ref a7, .ref a8, .int (nI pa), .int (nI fl), .ref a9, .int (nI ln), .ref a10])), (a3, .inl (D.1 100, 150, .inl (fun k => nI (t k))))] (fun (r : Option Value) (u : Nat × Nat × Int32) => match u with | (A, F, P) => r = none ∧ (fltP fl fa F P A sz (qWant t sz ch pa) (fun a => A = a))) (fun (u : Nat × Nat × Int32) => match u with | (A, F, P) => ([(a0, .inr (8, [.ref a1, .int (nI uk), .int kp, .int sd, .ref a2, .ref a3, .int (nI sz), .int P, .ref a4, .ref a5, .ref a6, .int (nI wr), .ref a7, .ref a8, .int (nI A), .int (nI F), .ref a9, .int (nI ln), .ref a10])), (a3, .inl (D.1 100, 150, .inl (fun k => nI (t k))))] : va_W)) := by
  refine Ct.ofG (by decide) (Nat.le_of_ble_eq_true rfl) ?_
  intro X hX
  have hX : CX X l D RX7 "want" cX7_want 2 none 2 40 0 0 := hX
  show G X (QM X 0 0 (fun (r : Option Value) (u : Nat × Nat × Int32) => match u with | (A, F, P) => r = none ∧ (fltP fl fa F P A sz (qWant t sz ch pa) (fun a => A = a))) (fun (u : Nat × Nat × Int32) => match u with | (A, F, P) => ([(a0, .inr (8, [.ref a1, .int (nI uk), .int kp, .int sd, .ref a2, .ref a3, .int (nI sz), .int P, .ref a4, .ref a5, .ref a6, .int (nI wr), .ref a7, .ref a8, .int (nI A), .int (nI F), .ref a9, .int (nI ln), .ref a10])), (a3, .inl (D.1 100, 150, .inl (fun k => nI (t k))))] : va_W))) [(a0, .inr (8, [.ref a1, .int (nI uk), .int kp, .int sd, .ref a2, .ref a3, .int (nI sz), .int fa, .ref a4, .ref a5, .ref a6, .int (nI wr), .ref a7, .ref a8, .int (nI pa), .int (nI fl), .ref a9, .int (nI ln), .ref a10])), (a3, .inl (D.1 100, 150, .inl (fun k => nI (t k))))] 0 0 0 [some (.ref a0), some (.int (nI ch))] []
  generalize hQ : QM X 0 0 (fun (r : Option Value) (u : Nat × Nat × Int32) => match u with | (A, F, P) => r = none ∧ (fltP fl fa F P A sz (qWant t sz ch pa) (fun a => A = a))) (fun (u : Nat × Nat × Int32) => match u with | (A, F, P) => ([(a0, .inr (8, [.ref a1, .int (nI uk), .int kp, .int sd, .ref a2, .ref a3, .int (nI sz), .int P, .ref a4, .ref a5, .ref a6, .int (nI wr), .ref a7, .ref a8, .int (nI A), .int (nI F), .ref a9, .int (nI ln), .ref a10])), (a3, .inl (D.1 100, 150, .inl (fun k => nI (t k))))] : va_W)) = Q
  refine g_aload_n hX dX7_want_0 rfl ?_
  refine g_callFv (ws' := [(a0, .inr (8, [.ref a1, .int (nI uk), .int kp, .int sd, .ref a2, .ref a3, .int (nI sz), .int fa, .ref a4, .ref a5, .ref a6, .int (nI wr), .ref a7, .ref a8, .int (nI (sk t sz pa)), .int (nI fl), .ref a9, .int (nI ln), .ref a10])), (a3, .inl (D.1 100, 150, .inl (fun k => nI (t k))))]) hX dX7_want_1 cw_X7_153 (ct_X7_skip  (by omega) (by omega) (by omega) (by first | with_reducible assumption | assumption)) 0 8 [0, 1] rfl rfl rfl rfl (by decide) rfl rfl ⟨by decide, by decide⟩ (Nat.le_of_ble_eq_true rfl) (Nat.le_refl _) (Nat.le_refl _) rfl ?_
  have hb := sk_le (t := t) hpa
  refine g_aload_n hX dX7_want_4 rfl ?_
  refine g_callRi hX dX7_want_5 cw_X7_141 (ct_X7_here  (by omega) (by omega) (by omega) (by first | with_reducible assumption | assumption)) 0 8 [0, 1] rfl rfl rfl rfl (by decide) rfl ⟨by decide, by decide⟩ (Nat.le_of_ble_eq_true rfl) (Nat.le_refl _) (Nat.le_refl _) ?_
  refine g_iload_n hX dX7_want_8 rfl ?_
  refine g_icmp_eq (tgt := 24) hX dX7_want_9 (by decide) (fun h9 => ?_) (fun h9 => ?_)
  · skip
    refine g_aload_n hX dX7_want_24 rfl ?_
    refine g_dup hX dX7_want_25 rfl ?_
    refine g_getf hX dX7_want_26 fk_X7_132 0 rfl rfl ?_
    refine g_iconst hX dX7_want_29 kn_i_1 ?_
    refine g_iaddN hX dX7_want_30 ?_
    refine g_puti (ws' := [(a0, .inr (8, [.ref a1, .int (nI uk), .int kp, .int sd, .ref a2, .ref a3, .int (nI sz), .int fa, .ref a4, .ref a5, .ref a6, .int (nI wr), .ref a7, .ref a8, .int (nI ((sk t sz pa) + 1)), .int (nI fl), .ref a9, .int (nI ln), .ref a10])), (a3, .inl (D.1 100, 150, .inl (fun k => nI (t k))))]) hX dX7_want_31 fp_X7_132 0 rfl (Nat.le_of_ble_eq_true rfl) rfl ?_
    subst hQ
    exact g_vretU hX dX7_want_34 ((sk t sz pa) + 1, fl, fa) (⟨rfl, by have h := (oI_eq (smallO_here ht) (by omega)).mp h9; have := (hereO_some h).1; unfold qWant; rw [if_pos h]; exact ⟨by omega, fun _ => ⟨rfl, rfl⟩, fun e => ⟨e, rfl, rfl⟩⟩⟩) rfl (Nat.le_refl _) (Nat.le_refl _)
  · skip
    refine g_aload_n hX dX7_want_12 rfl ?_
    refine g_iconst hX dX7_want_13 kn_i_1 ?_
    refine g_aload_n hX dX7_want_14 rfl ?_
    refine g_getf hX dX7_want_15 fk_X7_132 0 rfl rfl ?_
    refine g_call hX dX7_want_18 cw_X7_156 (ct_X7_fail  (by omega)) 0 8 [0] rfl rfl rfl rfl (by decide) rfl (fun ⟨_, _⟩ => rfl) ⟨by decide, by decide⟩ (Nat.le_of_ble_eq_true rfl) ⟨Nat.le_refl _, Nat.le_refl _⟩ (fun v u hp => ?_)
    obtain ⟨F18, P18⟩ := u
    obtain ⟨rfl, hs18⟩ := hp
    show G X Q [(a0, .inr (8, [.ref a1, .int (nI uk), .int kp, .int sd, .ref a2, .ref a3, .int (nI sz), .int P18, .ref a4, .ref a5, .ref a6, .int (nI wr), .ref a7, .ref a8, .int (nI (sk t sz pa)), .int (nI F18), .ref a9, .int (nI ln), .ref a10])), (a3, .inl (D.1 100, 150, .inl (fun k => nI (t k))))] 0 0 21 [some (.ref a0), some (.int (nI ch))] []
    refine g_goto (tgt := 34) hX dX7_want_21 (by decide) ?_
    subst hQ
    exact g_vretU hX dX7_want_34 ((sk t sz pa), F18, P18) (⟨rfl, by have h : ¬ hereO t sz (sk t sz pa) = some ch := fun q => h9 ((oI_eq (smallO_here ht) (by omega)).mpr q); unfold qWant; rw [if_neg h]; exact ⟨by omega, hs18.2, fun e => ⟨(hs18.1 e).1, (hs18.1 e).2, Nat.zero_lt_one⟩⟩⟩) rfl (Nat.le_refl _) (Nat.le_refl _)
set_option maxRecDepth 100000 in
set_option maxHeartbeats 4000000 in
theorem ct_X7_figure {l : Launch} {D : va_G} {a0 a1 a2 a3 a4 a5 a6 a7 a8 a9 a10 uk sz wr pa fl ln : Nat} {kp sd fa : Int32} {t : Nat → Nat} {least : Nat} (hsz : sz ≤ 150) (hpa : pa ≤ sz) (hfl : fl < 100) (ht : ∀ k, t k < 256) (hle : least < 10) : Ct (S := Nat × Nat × Nat × Int32) l D yX7_figure cX7_figure 3 (some .int) 1 25 0 0 [.ref a0, .int (nI least)] [(a0, .inr (8, [.ref a1, .int (nI uk), .int kp, .int sd, .ref a2, .ref a3, .int (nI sz), .int fa, .ref a4, .ref a5, .ref a6, .int (nI wr), .ref a7, .ref a8, .int (nI pa), .int (nI fl), .ref a9, .int (nI ln), .ref a10])), (a3, .inl (D.1 100, 150, .inl (fun k => nI (t k))))] (fun (r : Option Value) (u : Nat × Nat × Nat × Int32) => match u with | (V, A, F, P) => r = (some (.int (nI V))) ∧ (fltP fl fa F P A sz (qFig t sz least pa) (fun a => V = a.1 ∧ A = a.2)) ∧ (V < 10)) (fun (u : Nat × Nat × Nat × Int32) => match u with | (V, A, F, P) => ([(a0, .inr (8, [.ref a1, .int (nI uk), .int kp, .int sd, .ref a2, .ref a3, .int (nI sz), .int P, .ref a4, .ref a5, .ref a6, .int (nI wr), .ref a7, .ref a8, .int (nI A), .int (nI F), .ref a9, .int (nI ln), .ref a10])), (a3, .inl (D.1 100, 150, .inl (fun k => nI (t k))))] : va_W)) := by
  refine Ct.ofG (by decide) (Nat.le_of_ble_eq_true rfl) ?_
  intro X hX
  have hX : CX X l D RX7 "figure" cX7_figure 3 (some .int) 1 25 0 0 := hX
  show G X (QM X 0 0 (fun (r : Option Value) (u : Nat × Nat × Nat × Int32) => match u with | (V, A, F, P) => r = (some (.int (nI V))) ∧ (fltP fl fa F P A sz (qFig t sz least pa) (fun a => V = a.1 ∧ A = a.2)) ∧ (V < 10)) (fun (u : Nat × Nat × Nat × Int32) => match u with | (V, A, F, P) => ([(a0, .inr (8, [.ref a1, .int (nI uk), .int kp, .int sd, .ref a2, .ref a3, .int (nI sz), .int P, .ref a4, .ref a5, .ref a6, .int (nI wr), .ref a7, .ref a8, .int (nI A), .int (nI F), .ref a9, .int (nI ln), .ref a10])), (a3, .inl (D.1 100, 150, .inl (fun k => nI (t k))))] : va_W))) [(a0, .inr (8, [.ref a1, .int (nI uk), .int kp, .int sd, .ref a2, .ref a3, .int (nI sz), .int fa, .ref a4, .ref a5, .ref a6, .int (nI wr), .ref a7, .ref a8, .int (nI pa), .int (nI fl), .ref a9, .int (nI ln), .ref a10])), (a3, .inl (D.1 100, 150, .inl (fun k => nI (t k))))] 0 0 0 [some (.ref a0), some (.int (nI least)), none] []
  generalize hQ : QM X 0 0 (fun (r : Option Value) (u : Nat × Nat × Nat × Int32) => match u with | (V, A, F, P) => r = (some (.int (nI V))) ∧ (fltP fl fa F P A sz (qFig t sz least pa) (fun a => V = a.1 ∧ A = a.2)) ∧ (V < 10)) (fun (u : Nat × Nat × Nat × Int32) => match u with | (V, A, F, P) => ([(a0, .inr (8, [.ref a1, .int (nI uk), .int kp, .int sd, .ref a2, .ref a3, .int (nI sz), .int P, .ref a4, .ref a5, .ref a6, .int (nI wr), .ref a7, .ref a8, .int (nI A), .int (nI F), .ref a9, .int (nI ln), .ref a10])), (a3, .inl (D.1 100, 150, .inl (fun k => nI (t k))))] : va_W)) = Q
  refine g_aload_n hX dX7_figure_0 rfl ?_
  refine g_callRi hX dX7_figure_1 cw_X7_141 (ct_X7_here  (by omega) (by omega) (by omega) (by first | with_reducible assumption | assumption)) 0 8 [0, 1] rfl rfl rfl rfl (by decide) rfl ⟨by decide, by decide⟩ (Nat.le_of_ble_eq_true rfl) (Nat.le_refl _) (Nat.le_refl _) ?_
  refine g_bipush hX dX7_figure_4 kn_b_48 ?_
  refine g_isub hX dX7_figure_6 ?_
  have hin := fig_in (o := hereO t sz pa) (least := least) (smallO_here ht) hle
  refine g_istore_n (L' := [some (.ref a0), some (.int (nI least)), some (.int ((oI (hereO t sz pa)) - (nI 48)))]) hX dX7_figure_7 (by decide) rfl ?_
  refine g_iload_n hX dX7_figure_8 rfl ?_
  refine g_i2l hX dX7_figure_9 ?_
  refine g_iload_n hX dX7_figure_10 rfl ?_
  refine g_i2l hX dX7_figure_11 ?_
  refine g_ldc2 hX dX7_figure_12 kc_X7_159 ?_
  refine g_callSRi hX dX7_figure_15 cw_X7_53 ct_X7_in [] rfl rfl (by decide) rfl ⟨by decide, by decide⟩ (Nat.le_of_ble_eq_true rfl) (Nat.le_refl _) (Nat.le_refl _) ?_
  refine g_ifb_ne (tgt := 32) hX dX7_figure_18 (by decide) (fun h18 => ?_) (fun h18 => ?_)
  · skip
    refine g_aload_n hX dX7_figure_32 rfl ?_
    refine g_dup hX dX7_figure_33 rfl ?_
    refine g_getf hX dX7_figure_34 fk_X7_132 0 rfl rfl ?_
    refine g_iconst hX dX7_figure_37 kn_i_1 ?_
    refine g_iaddN hX dX7_figure_38 ?_
    refine g_puti (ws' := [(a0, .inr (8, [.ref a1, .int (nI uk), .int kp, .int sd, .ref a2, .ref a3, .int (nI sz), .int fa, .ref a4, .ref a5, .ref a6, .int (nI wr), .ref a7, .ref a8, .int (nI (pa + 1)), .int (nI fl), .ref a9, .int (nI ln), .ref a10])), (a3, .inl (D.1 100, 150, .inl (fun k => nI (t k))))]) hX dX7_figure_39 fp_X7_132 0 rfl (Nat.le_of_ble_eq_true rfl) rfl ?_
    refine g_iload_n hX dX7_figure_42 rfl ?_
    refine g_top (v' := nI (t pa - 48)) (by have h2 := fig_ok (hin.symm.trans h18); have := figO_in h2.1; rw [show hereO t sz pa = some (t pa) by unfold hereO; rw [if_neg (by omega)]]; exact pk_sub (by omega)) ?_
    subst hQ
    exact g_zretU hX dX7_figure_43 (vp_nar_int _) (t pa - 48, pa + 1, fl, fa) (⟨rfl, by have h2 := fig_ok (hin.symm.trans h18); have := (figO_in h2.1).1; unfold qFig; rw [if_pos h2]; exact ⟨by omega, fun _ => ⟨rfl, rfl⟩, fun e => ⟨e, rfl, rfl, rfl⟩⟩, by have h2 := fig_ok (hin.symm.trans h18); have := figO_in h2.1; omega⟩) rfl (Nat.le_refl _) (Nat.le_refl _)
  · skip
    refine g_aload_n hX dX7_figure_21 rfl ?_
    refine g_iconst hX dX7_figure_22 kn_i_1 ?_
    refine g_aload_n hX dX7_figure_23 rfl ?_
    refine g_getf hX dX7_figure_24 fk_X7_132 0 rfl rfl ?_
    refine g_call hX dX7_figure_27 cw_X7_156 (ct_X7_fail  (by omega)) 0 8 [0] rfl rfl rfl rfl (by decide) rfl (fun ⟨_, _⟩ => rfl) ⟨by decide, by decide⟩ (Nat.le_of_ble_eq_true rfl) ⟨Nat.le_refl _, Nat.le_refl _⟩ (fun v u hp => ?_)
    obtain ⟨F27, P27⟩ := u
    obtain ⟨rfl, hs27⟩ := hp
    show G X Q [(a0, .inr (8, [.ref a1, .int (nI uk), .int kp, .int sd, .ref a2, .ref a3, .int (nI sz), .int P27, .ref a4, .ref a5, .ref a6, .int (nI wr), .ref a7, .ref a8, .int (nI pa), .int (nI F27), .ref a9, .int (nI ln), .ref a10])), (a3, .inl (D.1 100, 150, .inl (fun k => nI (t k))))] 0 0 30 [some (.ref a0), some (.int (nI least)), some (.int ((oI (hereO t sz pa)) - (nI 48)))] []
    refine g_iconst hX dX7_figure_30 kn_i_0 ?_
    subst hQ
    exact g_zretU hX dX7_figure_31 (vp_nar_int _) (0, pa, F27, P27) (⟨rfl, by unfold qFig; rw [if_neg (fig_no (hin.symm.trans h18))]; exact ⟨by omega, hs27.2, fun e => ⟨(hs27.1 e).1, (hs27.1 e).2, Nat.zero_lt_one⟩⟩, by decide⟩) rfl (Nat.le_refl _) (Nat.le_refl _)
