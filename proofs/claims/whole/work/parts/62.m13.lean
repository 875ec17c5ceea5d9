set_option maxRecDepth 100000 in
set_option maxHeartbeats 4000000 in
theorem ct_X7_tell {l : Launch} {D : va_G} {a0 a1 a2 a3 a4 a5 a6 a7 a8 a9 a10 uk sz wr pa fl ln : Nat} {kp sd fa : Int32} {t : Nat → Nat} {w : Nat → Int32} (hsz : sz ≤ 150) (ht : ∀ k, t k < 256) (huk : uk ≤ 16) : Ct (S := Int32 × Nat × Nat × Int32 × Nat × (Nat → Int32)) l D yX7_tell cX7_tell 2 (some .int) 5 118 0 0 [.ref a0] [(a0, .inr (8, [.ref a1, .int (nI uk), .int kp, .int sd, .ref a2, .ref a3, .int (nI sz), .int fa, .ref a4, .ref a5, .ref a6, .int (nI wr), .ref a7, .ref a8, .int (nI pa), .int (nI fl), .ref a9, .int (nI ln), .ref a10])), (a3, .inl (D.1 100, 150, .inl (fun k => nI (t k)))), (a1, .inl (D.1 100, 3318, .inl w))] (fun (r : Option Value) (u : Int32 × Nat × Nat × Int32 × Nat × (Nat → Int32)) => match u with | (V, A, F, P, U, W) => r = (some (.int V)) ∧ (tellP t sz uk w V F P U W) ∧ (A ≤ 150)) (fun (u : Int32 × Nat × Nat × Int32 × Nat × (Nat → Int32)) => match u with | (V, A, F, P, U, W) => ([(a0, .inr (8, [.ref a1, .int (nI U), .int kp, .int sd, .ref a2, .ref a3, .int (nI 0), .int P, .ref a4, .ref a5, .ref a6, .int (nI wr), .ref a7, .ref a8, .int (nI A), .int (nI F), .ref a9, .int (nI ln), .ref a10])), (a3, .inl (D.1 100, 150, .inl (fun k => nI (t k)))), (a1, .inl (D.1 100, 3318, .inl W))] : va_W)) := by
  refine Ct.ofG (by decide) (Nat.le_of_ble_eq_true rfl) ?_
  intro X hX
  have hX : CX X l D RX7 "tell" cX7_tell 2 (some .int) 5 118 0 0 := hX
  show G X (QM X 0 0 (fun (r : Option Value) (u : Int32 × Nat × Nat × Int32 × Nat × (Nat → Int32)) => match u with | (V, A, F, P, U, W) => r = (some (.int V)) ∧ (tellP t sz uk w V F P U W) ∧ (A ≤ 150)) (fun (u : Int32 × Nat × Nat × Int32 × Nat × (Nat → Int32)) => match u with | (V, A, F, P, U, W) => ([(a0, .inr (8, [.ref a1, .int (nI U), .int kp, .int sd, .ref a2, .ref a3, .int (nI 0), .int P, .ref a4, .ref a5, .ref a6, .int (nI wr), .ref a7, .ref a8, .int (nI A), .int (nI F), .ref a9, .int (nI ln), .ref a10])), (a3, .inl (D.1 100, 150, .inl (fun k => nI (t k)))), (a1, .inl (D.1 100, 3318, .inl W))] : va_W))) [(a0, .inr (8, [.ref a1, .int (nI uk), .int kp, .int sd, .ref a2, .ref a3, .int (nI sz), .int fa, .ref a4, .ref a5, .ref a6, .int (nI wr), .ref a7, .ref a8, .int (nI pa), .int (nI fl), .ref a9, .int (nI ln), .ref a10])), (a3, .inl (D.1 100, 150, .inl (fun k => nI (t k)))), (a1, .inl (D.1 100, 3318, .inl w))] 0 0 0 [some (.ref a0), none] []
  generalize hQ : QM X 0 0 (fun (r : Option Value) (u : Int32 × Nat × Nat × Int32 × Nat × (Nat → Int32)) => match u with | (V, A, F, P, U, W) => r = (some (.int V)) ∧ (tellP t sz uk w V F P U W) ∧ (A ≤ 150)) (fun (u : Int32 × Nat × Nat × Int32 × Nat × (Nat → Int32)) => match u with | (V, A, F, P, U, W) => ([(a0, .inr (8, [.ref a1, .int (nI U), .int kp, .int sd, .ref a2, .ref a3, .int (nI 0), .int P, .ref a4, .ref a5, .ref a6, .int (nI wr), .ref a7, .ref a8, .int (nI A), .int (nI F), .ref a9, .int (nI ln), .ref a10])), (a3, .inl (D.1 100, 150, .inl (fun k => nI (t k)))), (a1, .inl (D.1 100, 3318, .inl W))] : va_W)) = Q
  refine g_aload_n hX dX7_tell_0 rfl ?_
  refine g_iconst hX dX7_tell_1 kn_i_0 ?_
  refine g_bipush hX dX7_tell_2 kn_b_19 ?_
  refine g_callFv (ws' := [(a0, .inr (8, [.ref a1, .int (nI uk), .int kp, .int sd, .ref a2, .ref a3, .int (nI sz), .int fa, .ref a4, .ref a5, .ref a6, .int (nI wr), .ref a7, .ref a8, .int (nI pa), .int (nI fl), .ref a9, .int (nI ln), .ref a10])), (a3, .inl (D.1 100, 150, .inl (fun k => nI (t k)))), (a1, .inl (D.1 100, 3318, .inl (cpRow w 0 19)))]) hX dX7_tell_4 cw_X7_44 (ct_X7_copyRow  (by first | with_reducible assumption | rfl) (by omega) (by omega) (by omega)) 0 8 [0, 2] rfl rfl rfl rfl (by decide) rfl rfl ⟨by decide, by decide⟩ (Nat.le_of_ble_eq_true rfl) (Nat.le_refl _) (Nat.le_refl _) rfl ?_
  refine g_aload_n hX dX7_tell_7 rfl ?_
  refine g_iconst hX dX7_tell_8 kn_i_0 ?_
  refine g_puti (ws' := [(a0, .inr (8, [.ref a1, .int (nI uk), .int kp, .int sd, .ref a2, .ref a3, .int (nI sz), .int fa, .ref a4, .ref a5, .ref a6, .int (nI wr), .ref a7, .ref a8, .int (nI 0), .int (nI fl), .ref a9, .int (nI ln), .ref a10])), (a3, .inl (D.1 100, 150, .inl (fun k => nI (t k)))), (a1, .inl (D.1 100, 3318, .inl (cpRow w 0 19)))]) hX dX7_tell_9 fp_X7_132 0 rfl (Nat.le_of_ble_eq_true rfl) rfl ?_
  refine g_aload_n hX dX7_tell_12 rfl ?_
  refine g_iconst hX dX7_tell_13 kn_i_0 ?_
  refine g_puti (ws' := [(a0, .inr (8, [.ref a1, .int (nI uk), .int kp, .int sd, .ref a2, .ref a3, .int (nI sz), .int fa, .ref a4, .ref a5, .ref a6, .int (nI wr), .ref a7, .ref a8, .int (nI 0), .int (nI 0), .ref a9, .int (nI ln), .ref a10])), (a3, .inl (D.1 100, 150, .inl (fun k => nI (t k)))), (a1, .inl (D.1 100, 3318, .inl (cpRow w 0 19)))]) hX dX7_tell_14 fp_X7_138 0 rfl (Nat.le_of_ble_eq_true rfl) rfl ?_
  refine g_aload_n hX dX7_tell_17 rfl ?_
  refine g_iconst hX dX7_tell_18 kn_i_m1 ?_
  refine g_puti (ws' := [(a0, .inr (8, [.ref a1, .int (nI uk), .int kp, .int sd, .ref a2, .ref a3, .int (nI sz), .int (-1), .ref a4, .ref a5, .ref a6, .int (nI wr), .ref a7, .ref a8, .int (nI 0), .int (nI 0), .ref a9, .int (nI ln), .ref a10])), (a3, .inl (D.1 100, 150, .inl (fun k => nI (t k)))), (a1, .inl (D.1 100, 3318, .inl (cpRow w 0 19)))]) hX dX7_tell_19 fp_X7_19 0 rfl (Nat.le_of_ble_eq_true rfl) rfl ?_
  refine g_iconst hX dX7_tell_22 kn_i_0 ?_
  refine g_istore_n (L' := [some (.ref a0), some (.int (nI 0))]) hX dX7_tell_23 (by decide) rfl ?_
  refine g_aload_n hX dX7_tell_24 rfl ?_
  refine g_callFv (ws' := [(a0, .inr (8, [.ref a1, .int (nI uk), .int kp, .int sd, .ref a2, .ref a3, .int (nI sz), .int (-1), .ref a4, .ref a5, .ref a6, .int (nI wr), .ref a7, .ref a8, .int (nI (sk t sz 0)), .int (nI 0), .ref a9, .int (nI ln), .ref a10])), (a3, .inl (D.1 100, 150, .inl (fun k => nI (t k)))), (a1, .inl (D.1 100, 3318, .inl (cpRow w 0 19)))]) hX dX7_tell_25 cw_X7_153 (ct_X7_skip  (by omega) (by omega) (by omega) (by first | with_reducible assumption | assumption)) 0 8 [0, 1] rfl rfl rfl rfl (by decide) rfl rfl ⟨by decide, by decide⟩ (Nat.le_of_ble_eq_true rfl) (Nat.le_refl _) (Nat.le_refl _) rfl ?_
  have loop28 : ∀ z : Nat × Nat × (Nat → Int32) × Nat, match z with | (n, p, v, f) => (p ≤ sz) → (sz + 1 ≤ f + p) → (qTell t sz (cpRow w 0 19) = qAll t sz f n v p) → (∀ k, 158 ≤ k → v k = cpRow w 0 19 k) → (n ≤ p) → G X Q [(a0, .inr (8, [.ref a1, .int (nI uk), .int kp, .int sd, .ref a2, .ref a3, .int (nI sz), .int (-1), .ref a4, .ref a5, .ref a6, .int (nI wr), .ref a7, .ref a8, .int (nI (sk t sz p)), .int (nI 0), .ref a9, .int (nI ln), .ref a10])), (a3, .inl (D.1 100, 150, .inl (fun k => nI (t k)))), (a1, .inl (D.1 100, 3318, .inl v))] 0 0 28 [some (.ref a0), some (.int (nI n))] [] := by
    refine loopM (fun z : Nat × Nat × (Nat → Int32) × Nat => match z with | (n, p, v, f) => f) (fun z ih28 => ?_)
    obtain ⟨n, p, v, f⟩ := z
    intro hp hf hq hw hn
    have hb0 := sk_le (t := t) hp
    obtain ⟨f2, hfs⟩ : ∃ f2, f = f2 + 1 := ⟨f - 1, by omega⟩
    refine g_aload_n hX dX7_tell_28 rfl ?_
    refine g_getf hX dX7_tell_29 fk_X7_138 0 rfl rfl ?_
    refine g_if_ne (tgt := 60) hX dX7_tell_32 (by decide) (fun h => absurd (by decide) h) (fun _ => ?_)
    refine g_aload_n hX dX7_tell_35 rfl ?_
    refine g_getf hX dX7_tell_36 fk_X7_132 0 rfl rfl ?_
    refine g_aload_n hX dX7_tell_39 rfl ?_
    refine g_getf hX dX7_tell_40 fk_X7_135 0 rfl rfl ?_
    refine g_icmpN_ge (tgt := 60) hX dX7_tell_43 (by decide) (by omega) (by omega) (fun h43 => ?_) (fun h43 => ?_)
    · skip
      have hall : qTell t sz (cpRow w 0 19) = .inr (n, v) := by rw [hq, hfs]; exact if_pos h43
      refine g_aload_n hX dX7_tell_60 rfl ?_
      refine g_iconst hX dX7_tell_61 kn_i_0 ?_
      refine g_puti (ws' := [(a0, .inr (8, [.ref a1, .int (nI uk), .int kp, .int sd, .ref a2, .ref a3, .int (nI 0), .int (-1), .ref a4, .ref a5, .ref a6, .int (nI wr), .ref a7, .ref a8, .int (nI (sk t sz p)), .int (nI 0), .ref a9, .int (nI ln), .ref a10])), (a3, .inl (D.1 100, 150, .inl (fun k => nI (t k)))), (a1, .inl (D.1 100, 3318, .inl v))]) hX dX7_tell_62 fp_X7_135 0 rfl (Nat.le_of_ble_eq_true rfl) rfl ?_
      refine g_aload_n hX dX7_tell_65 rfl ?_
      refine g_getf hX dX7_tell_66 fk_X7_138 0 rfl rfl ?_
      refine g_if_le (tgt := 87) hX dX7_tell_69 (by decide) (fun _ => ?_) (fun h => absurd (by decide) h)
      refine g_aload_n hX dX7_tell_87 rfl ?_
      refine g_iconst hX dX7_tell_88 kn_i_0 ?_
      refine g_bipush hX dX7_tell_89 kn_b_20 ?_
      refine g_callFv (ws' := [(a0, .inr (8, [.ref a1, .int (nI uk), .int kp, .int sd, .ref a2, .ref a3, .int (nI 0), .int (-1), .ref a4, .ref a5, .ref a6, .int (nI wr), .ref a7, .ref a8, .int (nI (sk t sz p)), .int (nI 0), .ref a9, .int (nI ln), .ref a10])), (a3, .inl (D.1 100, 150, .inl (fun k => nI (t k)))), (a1, .inl (D.1 100, 3318, .inl (cpRow v 0 20)))]) hX dX7_tell_91 cw_X7_44 (ct_X7_copyRow  (by first | with_reducible assumption | rfl) (by omega) (by omega) (by omega)) 0 8 [0, 2] rfl rfl rfl rfl (by decide) rfl rfl ⟨by decide, by decide⟩ (Nat.le_of_ble_eq_true rfl) (Nat.le_refl _) (Nat.le_refl _) rfl ?_
      refine g_aload_n hX dX7_tell_94 rfl ?_
      refine g_bipush hX dX7_tell_95 kn_b_19 ?_
      refine g_iconst hX dX7_tell_97 kn_i_0 ?_
      refine g_callFv (ws' := [(a0, .inr (8, [.ref a1, .int (nI uk), .int kp, .int sd, .ref a2, .ref a3, .int (nI 0), .int (-1), .ref a4, .ref a5, .ref a6, .int (nI wr), .ref a7, .ref a8, .int (nI (sk t sz p)), .int (nI 0), .ref a9, .int (nI ln), .ref a10])), (a3, .inl (D.1 100, 150, .inl (fun k => nI (t k)))), (a1, .inl (D.1 100, 3318, .inl (cpRow (cpRow v 0 20) 19 0)))]) hX dX7_tell_98 cw_X7_44 (ct_X7_copyRow  (by first | with_reducible assumption | rfl) (by omega) (by omega) (by omega)) 0 8 [0, 2] rfl rfl rfl rfl (by decide) rfl rfl ⟨by decide, by decide⟩ (Nat.le_of_ble_eq_true rfl) (Nat.le_refl _) (Nat.le_refl _) rfl ?_
      refine g_aload_n hX dX7_tell_101 rfl ?_
      refine g_callFv (ws' := [(a0, .inr (8, [.ref a1, .int (nI (if 16 ≤ uk then 16 else uk + 1)), .int kp, .int sd, .ref a2, .ref a3, .int (nI 0), .int (-1), .ref a4, .ref a5, .ref a6, .int (nI wr), .ref a7, .ref a8, .int (nI (sk t sz p)), .int (nI 0), .ref a9, .int (nI ln), .ref a10])), (a3, .inl (D.1 100, 150, .inl (fun k => nI (t k)))), (a1, .inl (D.1 100, 3318, .inl (memTo (cpRow (cpRow v 0 20) 19 0) 0)))]) hX dX7_tell_102 cw_X7_215 (ct_X7_remember  (by omega)) 0 8 [0, 2] rfl rfl rfl rfl (by decide) rfl rfl ⟨by decide, by decide⟩ (Nat.le_of_ble_eq_true rfl) (Nat.le_refl _) (Nat.le_refl _) rfl ?_
      refine g_aload_n hX dX7_tell_105 rfl ?_
      refine g_bipush hX dX7_tell_106 kn_b_20 ?_
      refine g_iconst hX dX7_tell_108 kn_i_0 ?_
      refine g_callFv (ws' := [(a0, .inr (8, [.ref a1, .int (nI (if 16 ≤ uk then 16 else uk + 1)), .int kp, .int sd, .ref a2, .ref a3, .int (nI 0), .int (-1), .ref a4, .ref a5, .ref a6, .int (nI wr), .ref a7, .ref a8, .int (nI (sk t sz p)), .int (nI 0), .ref a9, .int (nI ln), .ref a10])), (a3, .inl (D.1 100, 150, .inl (fun k => nI (t k)))), (a1, .inl (D.1 100, 3318, .inl (cpRow (memTo (cpRow (cpRow v 0 20) 19 0) 0) 20 0)))]) hX dX7_tell_109 cw_X7_44 (ct_X7_copyRow  (by first | with_reducible assumption | rfl) (by omega) (by omega) (by omega)) 0 8 [0, 2] rfl rfl rfl rfl (by decide) rfl rfl ⟨by decide, by decide⟩ (Nat.le_of_ble_eq_true rfl) (Nat.le_refl _) (Nat.le_refl _) rfl ?_
      refine g_iload_n hX dX7_tell_112 rfl ?_
      subst hQ
      exact g_zretU hX dX7_tell_113 (vp_nar_int _) ((nI n), (sk t sz p), 0, (-1), if 16 ≤ uk then 16 else uk + 1, cpRow (memTo (cpRow (cpRow v 0 20) 19 0) 0) 20 0) (⟨rfl, by unfold tellP; rw [hall]; exact ⟨rfl, rfl, rfl, rfl, tell_ok hw⟩, Nat.le_trans (sk_le hp) hsz⟩) rfl (Nat.le_refl _) (Nat.le_refl _)
    · skip
      refine g_aload_n hX dX7_tell_46 rfl ?_
      refine g_call hX dX7_tell_47 cw_X7_212 (ct_X7_clause  (by omega) (by omega) (by first | with_reducible assumption | assumption)) 0 8 [0, 1, 2] rfl rfl rfl rfl (by decide) rfl (fun ⟨_, _, _, _⟩ => rfl) ⟨by decide, by decide⟩ (Nat.le_of_ble_eq_true rfl) ⟨Nat.le_refl _, Nat.le_refl _⟩ (fun v u hp => ?_)
      obtain ⟨A47, F47, P47, W47⟩ := u
      obtain ⟨rfl, hs47, hw47⟩ := hp
      show G X Q [(a0, .inr (8, [.ref a1, .int (nI uk), .int kp, .int sd, .ref a2, .ref a3, .int (nI sz), .int P47, .ref a4, .ref a5, .ref a6, .int (nI wr), .ref a7, .ref a8, .int (nI A47), .int (nI F47), .ref a9, .int (nI ln), .ref a10])), (a3, .inl (D.1 100, 150, .inl (fun k => nI (t k)))), (a1, .inl (D.1 100, 3318, .inl W47))] 0 0 50 [some (.ref a0), some (.int (nI n))] []
      have hA47 := hs47.1
      have hF47 : F47 < 100 := flt_F hs47 (by decide) (fun e he => qClause_F he)
      refine g_iincN (L' := [some (.ref a0), some (.int (nI (n + 1)))]) hX dX7_tell_50 rfl (by decide) rfl ?_
      refine g_aload_n hX dX7_tell_53 rfl ?_
      refine g_callFv (ws' := [(a0, .inr (8, [.ref a1, .int (nI uk), .int kp, .int sd, .ref a2, .ref a3, .int (nI sz), .int P47, .ref a4, .ref a5, .ref a6, .int (nI wr), .ref a7, .ref a8, .int (nI (sk t sz A47)), .int (nI F47), .ref a9, .int (nI ln), .ref a10])), (a3, .inl (D.1 100, 150, .inl (fun k => nI (t k)))), (a1, .inl (D.1 100, 3318, .inl W47))]) hX dX7_tell_54 cw_X7_153 (ct_X7_skip  (by omega) (by omega) (by omega) (by first | with_reducible assumption | assumption)) 0 8 [0, 1] rfl rfl rfl rfl (by decide) rfl rfl ⟨by decide, by decide⟩ (Nat.le_of_ble_eq_true rfl) (Nat.le_refl _) (Nat.le_refl _) rfl ?_
      refine g_goto (tgt := 28) hX dX7_tell_57 (by decide) ?_
      by_cases hF : F47 = 0
      rotate_left
      · skip
        have hF1 : F47 < 100 := flt_F hs47 (by decide) (fun e he => qClause_F he)
        obtain ⟨e47, he47⟩ : ∃ e, qClause t sz v (sk t sz p) = .inl e := by
          cases hq2 : qClause t sz v (sk t sz p) with
          | inl e => exact ⟨e, rfl⟩
          | inr a => have := hs47.2.2 rfl; rw [hq2] at this; exact absurd this.1 hF
        have z47 := hs47.2.2 rfl
        rw [he47] at z47
        have hall : qTell t sz (cpRow w 0 19) = .inl e47 := by rw [hq, hfs, qAll_b (by omega) he47]
        refine g_aload_n hX dX7_tell_28 rfl ?_
        refine g_getf hX dX7_tell_29 fk_X7_138 0 rfl rfl ?_
        refine g_ifN_ne (tgt := 60) hX dX7_tell_32 (by decide) (by omega) (fun h32 => ?_) (fun h => absurd h hF)
        refine g_aload_n hX dX7_tell_60 rfl ?_
        refine g_iconst hX dX7_tell_61 kn_i_0 ?_
        refine g_puti (ws' := [(a0, .inr (8, [.ref a1, .int (nI uk), .int kp, .int sd, .ref a2, .ref a3, .int (nI 0), .int P47, .ref a4, .ref a5, .ref a6, .int (nI wr), .ref a7, .ref a8, .int (nI (sk t sz A47)), .int (nI F47), .ref a9, .int (nI ln), .ref a10])), (a3, .inl (D.1 100, 150, .inl (fun k => nI (t k)))), (a1, .inl (D.1 100, 3318, .inl W47))]) hX dX7_tell_62 fp_X7_135 0 rfl (Nat.le_of_ble_eq_true rfl) rfl ?_
        refine g_aload_n hX dX7_tell_65 rfl ?_
        refine g_getf hX dX7_tell_66 fk_X7_138 0 rfl rfl ?_
        refine g_ifN_le (tgt := 87) hX dX7_tell_69 (by decide) (by omega) (fun h => absurd h hF) (fun h69 => ?_)
        refine g_aload_n hX dX7_tell_72 rfl ?_
        refine g_bipush hX dX7_tell_73 kn_b_19 ?_
        refine g_iconst hX dX7_tell_75 kn_i_0 ?_
        refine g_callFv (ws' := [(a0, .inr (8, [.ref a1, .int (nI uk), .int kp, .int sd, .ref a2, .ref a3, .int (nI 0), .int P47, .ref a4, .ref a5, .ref a6, .int (nI wr), .ref a7, .ref a8, .int (nI (sk t sz A47)), .int (nI F47), .ref a9, .int (nI ln), .ref a10])), (a3, .inl (D.1 100, 150, .inl (fun k => nI (t k)))), (a1, .inl (D.1 100, 3318, .inl (cpRow W47 19 0)))]) hX dX7_tell_76 cw_X7_44 (ct_X7_copyRow  (by first | with_reducible assumption | rfl) (by omega) (by omega) (by omega)) 0 8 [0, 2] rfl rfl rfl rfl (by decide) rfl rfl ⟨by decide, by decide⟩ (Nat.le_of_ble_eq_true rfl) (Nat.le_refl _) (Nat.le_refl _) rfl ?_
        refine g_bipush hX dX7_tell_79 kn_b_m10 ?_
        refine g_aload_n hX dX7_tell_81 rfl ?_
        refine g_getf hX dX7_tell_82 fk_X7_138 0 rfl rfl ?_
        refine g_isub hX dX7_tell_85 ?_
        subst hQ
        exact g_zretU hX dX7_tell_86 (vp_nar_int _) ((-10) - (nI F47), sk t sz A47, F47, P47, uk, cpRow W47 19 0) (⟨rfl, by unfold tellP; rw [hall]; exact ⟨by rw [z47.1], z47.1, z47.2.1, rfl, qClause_F he47, tell_bad (fun k hk => (hw47 k hk).trans (hw k hk))⟩, Nat.le_trans (sk_le hs47.1) hsz⟩) rfl (Nat.le_refl _) (Nat.le_refl _)
      obtain ⟨-, eP, ⟨a47, w47⟩, e3, e4, e5⟩ := flt_good hs47 hF
      dsimp only at e4 e5
      subst e4
      subst e5
      subst F47
      subst P47
      have hgo := qClause_ge e3
      dsimp only at hgo
      have hsg := sk_ge (t := t) (sz := sz) (p := p)
      have hA47 := hs47.1
      exact g_fin (ih28 (n + 1, A47, W47, f2) (by show f2 < f; omega) hA47 (by omega) (by rw [hq, hfs, qAll_s (by omega) e3]) (fun k hk => (hw47 k hk).trans (hw k hk)) (by omega)) (rfl) rfl ⟨rfl, rfl, trivial⟩
  exact g_fin (loop28 (0, 0, cpRow w 0 19, sz + 1) (by omega) (by omega) rfl (fun _ _ => rfl) (by omega)) (rfl) rfl ⟨rfl, rfl, trivial⟩
