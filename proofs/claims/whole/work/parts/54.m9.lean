set_option maxRecDepth 100000 in
set_option maxHeartbeats 4000000 in
theorem ct_X7_readEdge {l : Launch} {D : va_G} {a0 a1 a2 a3 a4 a5 a6 a7 a8 a9 a10 uk sz wr pa fl ln : Nat} {kp sd fa : Int32} {t : Nat → Nat} {w : Nat → Int32} {c side : Nat} (hsz : sz ≤ 150) (hpa : pa ≤ sz) (hfl : fl < 100) (ht : ∀ k, t k < 256) (hc : c < 8) (hs : side < 2) : Ct (S := Nat × Nat × Int32 × (Nat → Int32)) l D yX7_readEdge cX7_readEdge 4 none 2 47 0 0 [.ref a0, .int (nI c), .int (nI side)] [(a0, .inr (8, [.ref a1, .int (nI uk), .int kp, .int sd, .ref a2, .ref a3, .int (nI sz), .int fa, .ref a4, .ref a5, .ref a6, .int (nI wr), .ref a7, .ref a8, .int (nI pa), .int (nI fl), .ref a9, .int (nI ln), .ref a10])), (a3, .inl (D.1 100, 150, .inl (fun k => nI (t k)))), (a1, .inl (D.1 100, 3318, .inl w))] (fun (r : Option Value) (u : Nat × Nat × Int32 × (Nat → Int32)) => match u with | (A, F, P, W) => r = none ∧ (fltP fl fa F P A sz (qEdge t sz pa) (fun p => A = p + 5 ∧ W = rEdge w c side (fun i => t (p + i) - 48))) ∧ (∀ k, 158 ≤ k → W k = w k)) (fun (u : Nat × Nat × Int32 × (Nat → Int32)) => match u with | (A, F, P, W) => ([(a0, .inr (8, [.ref a1, .int (nI uk), .int kp, .int sd, .ref a2, .ref a3, .int (nI sz), .int P, .ref a4, .ref a5, .ref a6, .int (nI wr), .ref a7, .ref a8, .int (nI A), .int (nI F), .ref a9, .int (nI ln), .ref a10])), (a3, .inl (D.1 100, 150, .inl (fun k => nI (t k)))), (a1, .inl (D.1 100, 3318, .inl W))] : va_W)) := by
  refine Ct.ofG (by decide) (Nat.le_of_ble_eq_true rfl) ?_
  intro X hX
  have hX : CX X l D RX7 "readEdge" cX7_readEdge 4 none 2 47 0 0 := hX
  show G X (QM X 0 0 (fun (r : Option Value) (u : Nat × Nat × Int32 × (Nat → Int32)) => match u with | (A, F, P, W) => r = none ∧ (fltP fl fa F P A sz (qEdge t sz pa) (fun p => A = p + 5 ∧ W = rEdge w c side (fun i => t (p + i) - 48))) ∧ (∀ k, 158 ≤ k → W k = w k)) (fun (u : Nat × Nat × Int32 × (Nat → Int32)) => match u with | (A, F, P, W) => ([(a0, .inr (8, [.ref a1, .int (nI uk), .int kp, .int sd, .ref a2, .ref a3, .int (nI sz), .int P, .ref a4, .ref a5, .ref a6, .int (nI wr), .ref a7, .ref a8, .int (nI A), .int (nI F), .ref a9, .int (nI ln), .ref a10])), (a3, .inl (D.1 100, 150, .inl (fun k => nI (t k)))), (a1, .inl (D.1 100, 3318, .inl W))] : va_W))) [(a0, .inr (8, [.ref a1, .int (nI uk), .int kp, .int sd, .ref a2, .ref a3, .int (nI sz), .int fa, .ref a4, .ref a5, .ref a6, .int (nI wr), .ref a7, .ref a8, .int (nI pa), .int (nI fl), .ref a9, .int (nI ln), .ref a10])), (a3, .inl (D.1 100, 150, .inl (fun k => nI (t k)))), (a1, .inl (D.1 100, 3318, .inl w))] 0 0 0 [some (.ref a0), some (.int (nI c)), some (.int (nI side)), none] []
  generalize hQ : QM X 0 0 (fun (r : Option Value) (u : Nat × Nat × Int32 × (Nat → Int32)) => match u with | (A, F, P, W) => r = none ∧ (fltP fl fa F P A sz (qEdge t sz pa) (fun p => A = p + 5 ∧ W = rEdge w c side (fun i => t (p + i) - 48))) ∧ (∀ k, 158 ≤ k → W k = w k)) (fun (u : Nat × Nat × Int32 × (Nat → Int32)) => match u with | (A, F, P, W) => ([(a0, .inr (8, [.ref a1, .int (nI uk), .int kp, .int sd, .ref a2, .ref a3, .int (nI sz), .int P, .ref a4, .ref a5, .ref a6, .int (nI wr), .ref a7, .ref a8, .int (nI A), .int (nI F), .ref a9, .int (nI ln), .ref a10])), (a3, .inl (D.1 100, 150, .inl (fun k => nI (t k)))), (a1, .inl (D.1 100, 3318, .inl W))] : va_W)) = Q
  refine g_aload_n hX dX7_readEdge_0 rfl ?_
  refine g_callFv (ws' := [(a0, .inr (8, [.ref a1, .int (nI uk), .int kp, .int sd, .ref a2, .ref a3, .int (nI sz), .int fa, .ref a4, .ref a5, .ref a6, .int (nI wr), .ref a7, .ref a8, .int (nI (sk t sz pa)), .int (nI fl), .ref a9, .int (nI ln), .ref a10])), (a3, .inl (D.1 100, 150, .inl (fun k => nI (t k)))), (a1, .inl (D.1 100, 3318, .inl w))]) hX dX7_readEdge_1 cw_X7_153 (ct_X7_skip  (by omega) (by omega) (by omega) (by first | with_reducible assumption | assumption)) 0 8 [0, 1] rfl rfl rfl rfl (by decide) rfl rfl ⟨by decide, by decide⟩ (Nat.le_of_ble_eq_true rfl) (Nat.le_refl _) (Nat.le_refl _) rfl ?_
  refine g_iconst hX dX7_readEdge_4 kn_i_0 ?_
  refine g_istore_n (L' := [some (.ref a0), some (.int (nI c)), some (.int (nI side)), some (.int (nI 0))]) hX dX7_readEdge_5 (by decide) rfl ?_
  have hb0 := sk_le (t := t) hpa
  by_cases hz : fl = 0
  rotate_left
  · skip
    refine g_iload_n hX dX7_readEdge_6 rfl ?_
    refine g_iconst hX dX7_readEdge_7 kn_i_5 ?_
    refine g_icmpN_ge (tgt := 47) hX dX7_readEdge_8 (by decide) (by decide) (by decide) (fun h => absurd h (by decide)) (fun _ => ?_)
    refine g_aload_n hX dX7_readEdge_11 rfl ?_
    refine g_getf hX dX7_readEdge_12 fk_X7_138 0 rfl rfl ?_
    refine g_ifN_ne (tgt := 47) hX dX7_readEdge_15 (by decide) (by omega) (fun h15 => ?_) (fun h => absurd h hz)
    subst hQ
    exact g_vretU hX dX7_readEdge_47 (sk t sz pa, fl, fa, w) (⟨rfl, ⟨hb0, fun _ => ⟨rfl, rfl⟩, fun e => absurd e hz⟩, fun _ _ => rfl⟩) rfl (Nat.le_refl _) (Nat.le_refl _)
  subst hz
  have loop6 : ∀ h : Nat, h ≤ 5 → (∀ i, i < h → figO (hereO t sz (sk t sz pa + i)) = true) → G X Q [(a0, .inr (8, [.ref a1, .int (nI uk), .int kp, .int sd, .ref a2, .ref a3, .int (nI sz), .int fa, .ref a4, .ref a5, .ref a6, .int (nI wr), .ref a7, .ref a8, .int (nI (sk t sz pa + h)), .int (nI 0), .ref a9, .int (nI ln), .ref a10])), (a3, .inl (D.1 100, 150, .inl (fun k => nI (t k)))), (a1, .inl (D.1 100, 3318, .inl (rEdgeTo w c side (fun i => t (sk t sz pa + i) - 48) h)))] 0 0 6 [some (.ref a0), some (.int (nI c)), some (.int (nI side)), some (.int (nI h))] [] := by
    refine loopN 5 (fun h hh6 ih6 => ?_)
    intro hd
    have hsd : sk t sz pa + h ≤ sz := by
      rcases Nat.eq_zero_or_pos h with q | q
      · rw [q]; exact hb0
      · have := (figO_in (hd (h - 1) (by omega))).1
        omega
    refine g_iload_n hX dX7_readEdge_6 rfl ?_
    refine g_iconst hX dX7_readEdge_7 kn_i_5 ?_
    refine g_icmpN_ge (tgt := 47) hX dX7_readEdge_8 (by decide) (by omega) (by omega) (fun h8 => ?_) (fun h8 => ?_)
    · skip
      obtain rfl : h = 5 := by omega
      subst hQ
      exact g_vretU hX dX7_readEdge_47 (sk t sz pa + 5, 0, fa, rEdgeTo w c side (fun i => t (sk t sz pa + i) - 48) 5) (⟨rfl, flt_ok (by omega) rfl rfl rfl (a := sk t sz pa) (if_pos (qRun_all hd)) ⟨rfl, rfl⟩, fun k hk => (rEdgeTo_hi hc hs (Nat.le_refl 5) (x := 0) k hk).1⟩) rfl (Nat.le_refl _) (Nat.le_refl _)
    · skip
      refine g_aload_n hX dX7_readEdge_11 rfl ?_
      refine g_getf hX dX7_readEdge_12 fk_X7_138 0 rfl rfl ?_
      refine g_if_ne (tgt := 47) hX dX7_readEdge_15 (by decide) (fun h => absurd (by decide) h) (fun _ => ?_)
      refine g_aload_n hX dX7_readEdge_18 rfl ?_
      refine g_getf hX dX7_readEdge_19 fk_X7_7 0 rfl rfl ?_
      refine g_bipush hX dX7_readEdge_22 kn_b_6 ?_
      refine g_bipush hX dX7_readEdge_24 kn_b_40 ?_
      refine g_iload_n hX dX7_readEdge_26 rfl ?_
      refine g_imulN hX dX7_readEdge_27 ?_
      refine g_iaddN hX dX7_readEdge_28 ?_
      refine g_iconst hX dX7_readEdge_29 kn_i_5 ?_
      refine g_iload_n hX dX7_readEdge_30 rfl ?_
      refine g_imulN hX dX7_readEdge_31 ?_
      refine g_iaddN hX dX7_readEdge_32 ?_
      refine g_iload_n hX dX7_readEdge_33 rfl ?_
      refine g_iaddN hX dX7_readEdge_34 ?_
      refine g_aload_n hX dX7_readEdge_35 rfl ?_
      refine g_iconst hX dX7_readEdge_36 kn_i_0 ?_
      refine g_call hX dX7_readEdge_37 cw_X7_161 (ct_X7_figure  (by omega) (by omega) (by omega) (by first | with_reducible assumption | assumption) (by omega)) 0 8 [0, 1] rfl rfl rfl rfl (by decide) rfl (fun ⟨_, _, _, _⟩ => rfl) ⟨by decide, by decide⟩ (Nat.le_of_ble_eq_true rfl) ⟨Nat.le_refl _, Nat.le_refl _⟩ (fun v u hp => ?_)
      obtain ⟨V37, A37, F37, P37⟩ := u
      obtain ⟨rfl, hs37, hv37⟩ := hp
      show G X Q [(a0, .inr (8, [.ref a1, .int (nI uk), .int kp, .int sd, .ref a2, .ref a3, .int (nI sz), .int P37, .ref a4, .ref a5, .ref a6, .int (nI wr), .ref a7, .ref a8, .int (nI A37), .int (nI F37), .ref a9, .int (nI ln), .ref a10])), (a3, .inl (D.1 100, 150, .inl (fun k => nI (t k)))), (a1, .inl (D.1 100, 3318, .inl (rEdgeTo w c side (fun i => t (sk t sz pa + i) - 48) h)))] 0 0 40 [some (.ref a0), some (.int (nI c)), some (.int (nI side)), some (.int (nI h))] [.int (nI V37), .int (nI (((6 + (40 * side)) + (5 * c)) + h)), .ref a1]
      refine g_iast (ws' := [(a0, .inr (8, [.ref a1, .int (nI uk), .int kp, .int sd, .ref a2, .ref a3, .int (nI sz), .int P37, .ref a4, .ref a5, .ref a6, .int (nI wr), .ref a7, .ref a8, .int (nI A37), .int (nI F37), .ref a9, .int (nI ln), .ref a10])), (a3, .inl (D.1 100, 150, .inl (fun k => nI (t k)))), (a1, .inl (D.1 100, 3318, .inl (upd (rEdgeTo w c side (fun i => t (sk t sz pa + i) - 48) h) (((6 + (40 * side)) + (5 * c)) + h) (nI V37))))]) hX dX7_readEdge_40 2 rfl (by decide) (by omega) rfl ?_
      refine g_iincN (L' := [some (.ref a0), some (.int (nI c)), some (.int (nI side)), some (.int (nI (h + 1)))]) hX dX7_readEdge_41 rfl (by decide) rfl ?_
      refine g_goto (tgt := 6) hX dX7_readEdge_44 (by decide) ?_
      by_cases hF : F37 = 0
      rotate_left
      · skip
        have e37 : qFig t sz 0 (sk t sz pa + h) = .inl (1, sk t sz pa + h) := by
          cases hq : qFig t sz 0 (sk t sz pa + h) with
          | inl e => rw [(qFig_1 hq).2]
          | inr a => have := hs37.2.2 rfl; rw [hq] at this; exact absurd this.1 hF
        have z37 := hs37.2.2 rfl
        rw [e37] at z37
        have hF1 : F37 < 100 := flt_F hs37 (by decide) (fun e he => qFig_F he)
        refine g_iload_n hX dX7_readEdge_6 rfl ?_
        refine g_iconst hX dX7_readEdge_7 kn_i_5 ?_
        refine g_icmpN_ge (tgt := 47) hX dX7_readEdge_8 (by decide) (by omega) (by omega) (fun h8 => ?_) (fun h8 => ?_)
        · skip
          subst hQ
          exact g_vretU hX dX7_readEdge_47 (A37, F37, P37, upd (rEdgeTo w c side (fun i => t (sk t sz pa + i) - 48) h) (((6 + (40 * side)) + (5 * c)) + h) (nI V37)) (⟨rfl, flt_flt hs37.1 rfl (n := 1) (p := sk t sz pa + h) (by unfold qEdge; rw [qRun_stop (by omega) hd (qFig_1 e37).1, if_neg (by omega)]) z37.1 z37.2.1 (by decide), fun k hk => (rEdgeTo_hi hc hs (by omega) k hk).2⟩) rfl (Nat.le_refl _) (Nat.le_refl _)
        · skip
          refine g_aload_n hX dX7_readEdge_11 rfl ?_
          refine g_getf hX dX7_readEdge_12 fk_X7_138 0 rfl rfl ?_
          refine g_ifN_ne (tgt := 47) hX dX7_readEdge_15 (by decide) (by omega) (fun h15 => ?_) (fun h => absurd h hF)
          subst hQ
          exact g_vretU hX dX7_readEdge_47 (A37, F37, P37, upd (rEdgeTo w c side (fun i => t (sk t sz pa + i) - 48) h) (((6 + (40 * side)) + (5 * c)) + h) (nI V37)) (⟨rfl, flt_flt hs37.1 rfl (n := 1) (p := sk t sz pa + h) (by unfold qEdge; rw [qRun_stop (by omega) hd (qFig_1 e37).1, if_neg (by omega)]) z37.1 z37.2.1 (by decide), fun k hk => (rEdgeTo_hi hc hs (by omega) k hk).2⟩) rfl (Nat.le_refl _) (Nat.le_refl _)
      obtain ⟨-, e2, a37, e3, e4, e5⟩ := flt_good hs37 hF
      obtain ⟨f1, f2, f3⟩ := qFig_0 e3
      rw [f2] at e4
      rw [f3] at e5
      subst e4
      subst e5
      subst hF
      subst e2
      exact g_fin (ih6 (by omega) (fun i hi => by rcases Nat.lt_or_ge i h with q | q; exact hd i q; rw [show i = h by omega]; exact f1)) (by rw [← rEdgeTo_s]; rfl) rfl ⟨rfl, rfl, rfl, rfl, trivial⟩
  exact g_fin (loop6 0 (by omega) (fun i hi => absurd hi (by omega))) (by rw [rEdgeTo_0]; rfl) rfl ⟨rfl, rfl, rfl, rfl, trivial⟩
