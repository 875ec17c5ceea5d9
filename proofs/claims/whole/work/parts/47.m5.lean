set_option maxRecDepth 100000 in
set_option maxHeartbeats 4000000 in
theorem ct_X7_parts {l : Launch} {D : va_G} {a0 a1 a7 : Nat} {fs : List Value} {w q : Nat → Int32} {side most : Nat} (hf : fs[0]? = some (.ref a1)) (hg : fs[12]? = some (.ref a7)) (hs : side < 2) (hm : most ≤ 8) : Ct (S := Nat → Int32) l D yX7_parts cX7_parts 7 (some .boolean) 4 102 0 0 [.ref a0, .int (nI side), .int (nI most)] [(a0, .inr (8, fs)), (a1, .inl (D.1 100, 3318, .inl w)), (a7, .inl (D.1 100, 16, .inl q))] (fun v q2 => v = some (.int (bI (svR w side most).isSome)) ∧ (∀ r, svR w side most = some r → ∀ d, d < 8 → q2 (8 * side + d) = nI (pat r d)) ∧ (∀ k, (k < 8 * side ∨ 8 * side + 8 ≤ k) → q2 k = q k)) (fun q2 => [(a0, .inr (8, fs)), (a1, .inl (D.1 100, 3318, .inl w)), (a7, .inl (D.1 100, 16, .inl q2))]) := by
  refine Ct.ofG (by decide) (Nat.le_of_ble_eq_true rfl) ?_
  intro X hX
  have hX : CX X l D RX7 "parts" cX7_parts 7 (some .boolean) 4 102 0 0 := hX
  show G X (QM X 0 0 (fun v q2 => v = some (.int (bI (svR w side most).isSome)) ∧ (∀ r, svR w side most = some r → ∀ d, d < 8 → q2 (8 * side + d) = nI (pat r d)) ∧ (∀ k, (k < 8 * side ∨ 8 * side + 8 ≤ k) → q2 k = q k)) (fun q2 => [(a0, .inr (8, fs)), (a1, .inl (D.1 100, 3318, .inl w)), (a7, .inl (D.1 100, 16, .inl q2))])) [(a0, .inr (8, fs)), (a1, .inl (D.1 100, 3318, .inl w)), (a7, .inl (D.1 100, 16, .inl q))] 0 0 0 [some (.ref a0), some (.int (nI side)), some (.int (nI most)), none, none, none, none] []
  generalize hQ : QM X 0 0 (fun v q2 => v = some (.int (bI (svR w side most).isSome)) ∧ (∀ r, svR w side most = some r → ∀ d, d < 8 → q2 (8 * side + d) = nI (pat r d)) ∧ (∀ k, (k < 8 * side ∨ 8 * side + 8 ≤ k) → q2 k = q k)) (fun q2 => [(a0, .inr (8, fs)), (a1, .inl (D.1 100, 3318, .inl w)), (a7, .inl (D.1 100, 16, .inl q2))]) = Q
  have main : ∀ (n : Nat) (ps : List Nat), ps.length + n = 8 → (∀ d, d < ps.length → pat ps d < 8) → ∀ (m f : Nat), f + m = 9 → ∀ (q : Nat → Int32), (∀ d, d < ps.length → q (8 * side + d) = nI (pat ps d)) → (∀ (r : List Nat) (q2 : Nat → Int32), sv (okS (knW w) (cmpW w side) most) n ps f = some r → (∀ d, d < 8 → q2 (8 * side + d) = nI (pat r d)) → (∀ k, (k < 8 * side ∨ 8 * side + 8 ≤ k) → q2 k = q k) → G X Q [(a0, .inr (8, fs)), (a1, .inl (D.1 100, 3318, .inl w)), (a7, .inl (D.1 100, 16, .inl q2))] 0 0 107 [some (.ref a0), some (.int (nI side)), some (.int (nI most)), some (.int (nI 8)), none, none, none] []) → (∀ (q2 : Nat → Int32), sv (okS (knW w) (cmpW w side) most) n ps f = none → (∀ d, d < ps.length → q2 (8 * side + d) = nI (pat ps d)) → (∀ k, (k < 8 * side ∨ 8 * side + 8 ≤ k) → q2 k = q k) → G X Q [(a0, .inr (8, fs)), (a1, .inl (D.1 100, 3318, .inl w)), (a7, .inl (D.1 100, 16, .inl q2))] 0 0 78 [some (.ref a0), some (.int (nI side)), some (.int (nI most)), some (.int (nI ps.length)), none, none, none] []) → G X Q [(a0, .inr (8, fs)), (a1, .inl (D.1 100, 3318, .inl w)), (a7, .inl (D.1 100, 16, .inl q))] 0 0 5 [some (.ref a0), some (.int (nI side)), some (.int (nI most)), some (.int (nI ps.length)), some (.int (nI f)), none, none] [] := by
    intro n
    induction n with
    | zero =>
      intro ps hl hb m f hfm q hq Kok Kno
      refine g_iload_n hX dX7_parts_5 rfl ?_
      refine g_ifN_lt (tgt := 107) hX dX7_parts_6 (by decide) (by omega) ?_
      refine g_iload_n hX dX7_parts_9 rfl ?_
      refine g_bipush hX dX7_parts_10 kn_b_8 ?_
      refine g_icmpN_ge (tgt := 107) hX dX7_parts_12 (by decide) (by omega) (by omega) (fun h12 => ?_) (fun h => absurd (by omega) h)
      exact g_to (Kok ps q rfl (fun d hd => hq d (by omega)) (fun _ _ => rfl)) ⟨rfl, rfl, rfl, (by rw [show ps.length = 8 by omega]), trivial⟩
    | succ n ihn =>
      intro ps hl hb
      refine loopM (fun m : Nat => m) (fun m ihm => ?_)
      intro f hfm q hq Kok Kno
      have K53 : G X Q [(a0, .inr (8, fs)), (a1, .inl (D.1 100, 3318, .inl w)), (a7, .inl (D.1 100, 16, .inl q))] 0 0 53 [some (.ref a0), some (.int (nI side)), some (.int (nI most)), some (.int (nI ps.length)), some (.int (nI f)), some (.int (nI (8 * side + ps.length))), none] [.int (oI (fnd (okS (knW w) (cmpW w side) most ps) (9 - f) f))] := by
        rcases ho : fnd (okS (knW w) (cmpW w side) most ps) (9 - f) f with _ | k
        · skip
          refine g_istore (L' := [some (.ref a0), some (.int (nI side)), some (.int (nI most)), some (.int (nI ps.length)), some (.int (nI f)), some (.int (nI (8 * side + ps.length))), some (.int (oI none))]) hX dX7_parts_53 (by decide) rfl ?_
          refine g_iload hX dX7_parts_55 rfl ?_
          refine g_if_lt (tgt := 78) hX dX7_parts_57 (by decide) (fun h57 => ?_) (fun h => absurd (by decide) h)
          exact g_to (Kno q (by show tryF _ _ (9 - f) f = none; exact tryF_none ho) hq (fun _ _ => rfl)) ⟨rfl, rfl, rfl, rfl, trivial⟩
        · obtain ⟨hk1, hk2, hk3, hk4⟩ := tryF_some (g := fun k => sv (okS (knW w) (cmpW w side) most) n (k :: ps) 0) ho
          have hk8 := okS_b hm hk3
          rw [show f + (9 - f) - (k + 1) = 9 - (k + 1) by omega] at hk4
          refine g_top (v' := nI k) (rfl) ?_
          refine g_istore (L' := [some (.ref a0), some (.int (nI side)), some (.int (nI most)), some (.int (nI ps.length)), some (.int (nI f)), some (.int (nI (8 * side + ps.length))), some (.int (nI k))]) hX dX7_parts_53 (by decide) rfl ?_
          refine g_iload hX dX7_parts_55 rfl ?_
          refine g_ifN_lt (tgt := 78) hX dX7_parts_57 (by decide) (by omega) ?_
          refine g_aload_n hX dX7_parts_60 rfl ?_
          refine g_getf hX dX7_parts_61 fk_X7_32 0 rfl hg ?_
          refine g_iload hX dX7_parts_64 rfl ?_
          refine g_iload hX dX7_parts_66 rfl ?_
          refine g_iast (ws' := [(a0, .inr (8, fs)), (a1, .inl (D.1 100, 3318, .inl w)), (a7, .inl (D.1 100, 16, .inl (upd q (8 * side + ps.length) (nI k))))]) hX dX7_parts_68 2 rfl (by decide) (by omega) rfl ?_
          refine g_iincN (L' := [some (.ref a0), some (.int (nI side)), some (.int (nI most)), some (.int (nI (ps.length + 1))), some (.int (nI f)), some (.int (nI (8 * side + ps.length))), some (.int (nI k))]) hX dX7_parts_69 rfl (by decide) rfl ?_
          refine g_iconst hX dX7_parts_72 kn_i_0 ?_
          refine g_istore (L' := [some (.ref a0), some (.int (nI side)), some (.int (nI most)), some (.int (nI (ps.length + 1))), some (.int (nI 0)), some (.int (nI (8 * side + ps.length))), some (.int (nI k))]) hX dX7_parts_73 (by decide) rfl ?_
          refine g_goto (tgt := 104) hX dX7_parts_75 (by decide) ?_
          refine g_goto (tgt := 5) hX dX7_parts_104 (by decide) ?_
          refine g_fin (ihn (k :: ps) (by simp; omega) (pat_b hk8 hb) 9 0 rfl (upd q (8 * side + ps.length) (nI k)) (fun d hd => ?_) (fun r q2 e1 e2 e3 => ?_) (fun q2 e1 e2 e3 => ?_)) rfl rfl ⟨rfl, rfl, rfl, rfl, rfl, trivial⟩
          · rcases Nat.lt_or_ge d ps.length with h | h
            · rw [pat_low h, pk_un (by omega)]; exact hq d h
            · rw [show d = ps.length by simp at hd; omega, pat_top, pk_us]
          · exact Kok r q2 (by show tryF _ _ (9 - f) f = some r; rw [hk4, e1]) e2 (fun k2 h2 => (e3 k2 h2).trans (pk_un (by omega)))
          · skip
            refine g_iinc (L' := [some (.ref a0), some (.int (nI side)), some (.int (nI most)), some (.int (nI ps.length)), none, none, none]) hX dX7_parts_78 rfl (pk_m1 ps.length) (by decide) rfl ?_
            refine g_iload_n hX dX7_parts_81 rfl ?_
            refine g_ifN_lt (tgt := 101) hX dX7_parts_82 (by decide) (by omega) ?_
            refine g_aload_n hX dX7_parts_85 rfl ?_
            refine g_getf hX dX7_parts_86 fk_X7_32 0 rfl hg ?_
            refine g_bipush hX dX7_parts_89 kn_b_8 ?_
            refine g_iload_n hX dX7_parts_91 rfl ?_
            refine g_imulN hX dX7_parts_92 ?_
            refine g_iload_n hX dX7_parts_93 rfl ?_
            refine g_iaddN hX dX7_parts_94 ?_
            refine g_iald hX dX7_parts_95 2 rfl (by decide) (by omega) ?_
            refine g_top (v' := nI k) ((e2 ps.length (by simp)).trans (by rw [pat_top])) ?_
            refine g_iconst hX dX7_parts_96 kn_i_1 ?_
            refine g_iaddN hX dX7_parts_97 ?_
            refine g_goto (tgt := 102) hX dX7_parts_98 (by decide) ?_
            refine g_istore (L' := [some (.ref a0), some (.int (nI side)), some (.int (nI most)), some (.int (nI ps.length)), some (.int (nI (k + 1))), none, none]) hX dX7_parts_102 (by decide) rfl ?_
            refine g_goto (tgt := 5) hX dX7_parts_104 (by decide) ?_
            exact g_fin (ihm (9 - (k + 1)) (show 9 - (k + 1) < m by omega) (k + 1) (by omega) q2 (fun d hd => (e2 d (by simp; omega)).trans (by rw [pat_low hd])) (fun r q3 f1 f2 f3 => Kok r q3 (by show tryF _ _ (9 - f) f = some r; rw [hk4, e1]; exact f1) f2 (fun k2 h2 => (f3 k2 h2).trans ((e3 k2 h2).trans (pk_un (by omega))))) (fun q3 f1 f2 f3 => Kno q3 (by show tryF _ _ (9 - f) f = none; rw [hk4, e1]; exact f1) f2 (fun k2 h2 => (f3 k2 h2).trans ((e3 k2 h2).trans (pk_un (by omega)))))) rfl rfl ⟨rfl, rfl, rfl, rfl, rfl, trivial⟩
      refine g_iload_n hX dX7_parts_5 rfl ?_
      refine g_ifN_lt (tgt := 107) hX dX7_parts_6 (by decide) (by omega) ?_
      refine g_iload_n hX dX7_parts_9 rfl ?_
      refine g_bipush hX dX7_parts_10 kn_b_8 ?_
      refine g_icmpN_ge (tgt := 107) hX dX7_parts_12 (by decide) (by omega) (by omega) (fun h => absurd h (by omega)) (fun h12 => ?_)
      refine g_bipush hX dX7_parts_15 kn_b_8 ?_
      refine g_iload_n hX dX7_parts_17 rfl ?_
      refine g_imulN hX dX7_parts_18 ?_
      refine g_iload_n hX dX7_parts_19 rfl ?_
      refine g_iaddN hX dX7_parts_20 ?_
      refine g_istore (L' := [some (.ref a0), some (.int (nI side)), some (.int (nI most)), some (.int (nI ps.length)), some (.int (nI f)), some (.int (nI ((8 * side) + ps.length))), none]) hX dX7_parts_21 (by decide) rfl ?_
      refine g_aload_n hX dX7_parts_23 rfl ?_
      refine g_iload_n hX dX7_parts_24 rfl ?_
      refine g_callRi hX dX7_parts_25 cw_X7_69 (ct_X7_isKnown_N  (by first | with_reducible assumption | rfl) (by omega)) 0 8 [0, 1] rfl rfl rfl rfl (by decide) rfl ⟨by decide, by decide⟩ (Nat.le_of_ble_eq_true rfl) (Nat.le_refl _) (Nat.le_refl _) ?_
      refine g_ifb_eq (tgt := 43) hX dX7_parts_28 (by decide) (fun h28 => ?_) (fun h28 => ?_)
      · skip
        refine g_iload hX dX7_parts_43 rfl ?_
        refine g_ifN_ne (tgt := 52) hX dX7_parts_45 (by decide) (by omega) (fun h45 => ?_) (fun h45 => ?_)
        · skip
          refine g_iconst hX dX7_parts_52 kn_i_m1 ?_
          refine g_top (v' := oI (fnd (okS (knW w) (cmpW w side) most ps) (9 - f) f)) (by rw [okS_u1 (kn := knW w) h28 h45]; rfl) ?_
          exact K53
        · skip
          refine g_iconst hX dX7_parts_48 kn_i_0 ?_
          refine g_goto (tgt := 53) hX dX7_parts_49 (by decide) ?_
          refine g_top (v' := oI (fnd (okS (knW w) (cmpW w side) most ps) (9 - f) f)) (by rw [h45, okS_u0 (kn := knW w) h28]; rfl) ?_
          exact K53
      · skip
        refine g_aload_n hX dX7_parts_31 rfl ?_
        refine g_iload_n hX dX7_parts_32 rfl ?_
        refine g_iload_n hX dX7_parts_33 rfl ?_
        refine g_iload hX dX7_parts_34 rfl ?_
        refine g_iload_n hX dX7_parts_36 rfl ?_
        refine g_callRi hX dX7_parts_37 cw_X7_84 (ct_X7_nextNumber  (by first | with_reducible assumption | rfl) (by first | with_reducible assumption | rfl) (by omega) (by omega) hb (by omega) (by omega) hq) 0 8 [0, 1, 2] rfl rfl rfl rfl (by decide) rfl ⟨by decide, by decide⟩ (Nat.le_of_ble_eq_true rfl) (Nat.le_refl _) (Nat.le_refl _) ?_
        refine g_goto (tgt := 53) hX dX7_parts_40 (by decide) ?_
        refine g_top (v' := oI (fnd (okS (knW w) (cmpW w side) most ps) (9 - f) f)) (by rw [okS_kn (kn := knW w) h28]) ?_
        exact K53
  refine g_iconst hX dX7_parts_0 kn_i_0 ?_
  refine g_istore_n (L' := [some (.ref a0), some (.int (nI side)), some (.int (nI most)), some (.int (nI 0)), none, none, none]) hX dX7_parts_1 (by decide) rfl ?_
  refine g_iconst hX dX7_parts_2 kn_i_0 ?_
  refine g_istore (L' := [some (.ref a0), some (.int (nI side)), some (.int (nI most)), some (.int (nI 0)), some (.int (nI 0)), none, none]) hX dX7_parts_3 (by decide) rfl ?_
  refine g_fin (main 8 [] rfl (by simp) 9 0 rfl q (by simp) (fun r q2 e1 e2 e3 => ?_) (fun q2 e1 e2 e3 => ?_)) rfl rfl ⟨rfl, rfl, rfl, rfl, rfl, trivial⟩
  · skip
    refine g_iload_n hX dX7_parts_107 rfl ?_
    refine g_bipush hX dX7_parts_108 kn_b_8 ?_
    refine g_icmpN_ne (tgt := 117) hX dX7_parts_110 (by decide) (by decide) (by decide) (fun h => absurd (by decide) h) (fun _ => ?_)
    refine g_iconst hX dX7_parts_113 kn_i_1 ?_
    refine g_goto (tgt := 118) hX dX7_parts_114 (by decide) ?_
    subst hQ
    refine g_zretU hX dX7_parts_118 (by exact bI_nar true) q2 ?_ rfl (Nat.le_refl _) (Nat.le_refl _)
    exact ⟨by rw [show svR w side most = some r from e1]; rfl, fun r2 h2 => (by cases (show some r = some r2 from (show svR w side most = some r from e1).symm.trans h2); exact e2), e3⟩
  · skip
    refine g_iinc (L' := [some (.ref a0), some (.int (nI side)), some (.int (nI most)), some (.int ((nI 0) + (-1))), none, none, none]) hX dX7_parts_78 rfl (by rfl) (by decide) rfl ?_
    refine g_iload_n hX dX7_parts_81 rfl ?_
    refine g_if_lt (tgt := 101) hX dX7_parts_82 (by decide) (fun h82 => ?_) (fun h => absurd (by decide) h)
    refine g_iconst hX dX7_parts_101 kn_i_0 ?_
    refine g_istore (L' := [some (.ref a0), some (.int (nI side)), some (.int (nI most)), some (.int ((nI 0) + (-1))), some (.int (nI 0)), none, none]) hX dX7_parts_102 (by decide) rfl ?_
    refine g_goto (tgt := 5) hX dX7_parts_104 (by decide) ?_
    refine g_iload_n hX dX7_parts_5 rfl ?_
    refine g_if_lt (tgt := 107) hX dX7_parts_6 (by decide) (fun h6 => ?_) (fun h => absurd (by decide) h)
    refine g_iload_n hX dX7_parts_107 rfl ?_
    refine g_bipush hX dX7_parts_108 kn_b_8 ?_
    refine g_icmp_ne (tgt := 117) hX dX7_parts_110 (by decide) (fun h110 => ?_) (fun h => absurd h (by decide))
    refine g_iconst hX dX7_parts_117 kn_i_0 ?_
    subst hQ
    refine g_zretU hX dX7_parts_118 (by exact bI_nar false) q2 ?_ rfl (Nat.le_refl _) (Nat.le_refl _)
    exact ⟨by rw [show svR w side most = none from e1]; rfl, fun r2 h2 => (by rw [show svR w side most = none from e1] at h2; cases h2), e3⟩
