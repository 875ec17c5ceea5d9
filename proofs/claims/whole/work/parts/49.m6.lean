theorem layQ_eq {w q q2 q3 : Nat → Int32} (e1 : ∀ d, d < 8 → q2 (8 * 0 + d) = nI (pat (clR w 0) d)) (e2 : ∀ k, (k < 8 * 0 ∨ 8 * 0 + 8 ≤ k) → q2 k = q k) (e3 : ∀ d, d < 8 → q3 (8 * 1 + d) = nI (pat (clR w 1) d)) (e4 : ∀ k, (k < 8 * 1 ∨ 8 * 1 + 8 ≤ k) → q3 k = q2 k) : layQ w q = q3 := by
  funext k
  unfold layQ
  by_cases h1 : k < 8
  · rw [if_pos h1, e4 k (by omega)]
    have := e1 k h1
    rw [Nat.mul_zero, Nat.zero_add] at this
    exact this.symm
  · rw [if_neg h1]
    by_cases h2 : k < 16
    · rw [if_pos h2, ← e3 (k - 8) (by omega), show 8 * 1 + (k - 8) = k by omega]
    · rw [if_neg h2, e4 k (by omega), e2 k (by omega)]
set_option maxRecDepth 100000 in
set_option maxHeartbeats 4000000 in
theorem ct_X7_layClasses {l : Launch} {D : va_G} {a0 a1 a7 a8 : Nat} {fs : List Value} {w q cl : Nat → Int32} (hf : fs[0]? = some (.ref a1)) (hg : fs[12]? = some (.ref a7)) (hk : fs[13]? = some (.ref a8)) : Cf l D yX7_layClasses cX7_layClasses 3 none 5 128 [.ref a0] [(a0, .inr (8, fs)), (a1, .inl (D.1 100, 3318, .inl w)), (a7, .inl (D.1 100, 16, .inl q)), (a8, .inl (D.1 100, 2, .inl cl))] none [(a0, .inr (8, fs)), (a1, .inl (D.1 100, 3318, .inl w)), (a7, .inl (D.1 100, 16, .inl (layQ w q))), (a8, .inl (D.1 100, 2, .inl (layC w cl)))] := by
  refine Ct.ofG (by decide) (Nat.le_of_ble_eq_true rfl) ?_
  intro X hX
  have hX : CX X l D RX7 "layClasses" cX7_layClasses 3 none 5 128 0 0 := hX
  show G X (QF X none [(a0, .inr (8, fs)), (a1, .inl (D.1 100, 3318, .inl w)), (a7, .inl (D.1 100, 16, .inl (layQ w q))), (a8, .inl (D.1 100, 2, .inl (layC w cl)))]) [(a0, .inr (8, fs)), (a1, .inl (D.1 100, 3318, .inl w)), (a7, .inl (D.1 100, 16, .inl q)), (a8, .inl (D.1 100, 2, .inl cl))] 0 0 0 [some (.ref a0), none, none] []
  generalize hQ : QF X none [(a0, .inr (8, fs)), (a1, .inl (D.1 100, 3318, .inl w)), (a7, .inl (D.1 100, 16, .inl (layQ w q))), (a8, .inl (D.1 100, 2, .inl (layC w cl)))] = Q
  have inner : ∀ (cl : Nat → Int32) (side : Nat), side < 2 → ∀ m : Nat, m ≤ clM w side → ∀ (q : Nat → Int32), (∀ q2 : Nat → Int32, (∀ d, d < 8 → q2 (8 * side + d) = nI (pat (clR w side) d)) → (∀ k, (k < 8 * side ∨ 8 * side + 8 ≤ k) → q2 k = q k) → G X Q [(a0, .inr (8, fs)), (a1, .inl (D.1 100, 3318, .inl w)), (a7, .inl (D.1 100, 16, .inl q2)), (a8, .inl (D.1 100, 2, .inl cl))] 0 0 24 [some (.ref a0), some (.int (nI side)), some (.int (nI (clM w side)))] []) → G X Q [(a0, .inr (8, fs)), (a1, .inl (D.1 100, 3318, .inl w)), (a7, .inl (D.1 100, 16, .inl q)), (a8, .inl (D.1 100, 2, .inl cl))] 0 0 9 [some (.ref a0), some (.int (nI side)), some (.int (nI m))] [] := by
    intro cl side hs
    obtain ⟨hM8, hMs, hMn⟩ := clM_spec w side
    refine loopN (clM w side) (fun m hm ih => ?_)
    intro q K
    refine g_aload_n hX dX7_layClasses_9 rfl ?_
    refine g_iload_n hX dX7_layClasses_10 rfl ?_
    refine g_iload_n hX dX7_layClasses_11 rfl ?_
    refine g_call hX dX7_layClasses_12 cw_X7_88 (ct_X7_parts (q := q) hf hg hs (by omega)) 0 8 [0, 1, 2] rfl rfl rfl rfl (by decide) rfl (fun _ => rfl) ⟨by decide, by decide⟩ (Nat.le_of_ble_eq_true rfl) ⟨Nat.le_refl _, Nat.le_refl _⟩ (fun v q2 hp => ?_)
    obtain ⟨rfl, hp1, hp2⟩ := hp
    show G X Q [(a0, .inr (8, fs)), (a1, .inl (D.1 100, 3318, .inl w)), (a7, .inl (D.1 100, 16, .inl q2)), (a8, .inl (D.1 100, 2, .inl cl))] 0 0 15 [some (.ref a0), some (.int (nI side)), some (.int (nI m))] [.int (bI ((svR w side m).isSome))]
    refine g_ifb_ne (tgt := 24) hX dX7_layClasses_15 (by decide) (fun h15 => ?_) (fun h15 => ?_)
    · skip
      have hmm : m = clM w side := by
        rcases Nat.lt_or_ge m (clM w side) with h | h
        · rw [hMn m h] at h15; cases h15
        · omega
      subst hmm
      exact g_to (K q2 (hp1 _ hMs) hp2) ⟨rfl, rfl, rfl, trivial⟩
    · skip
      refine g_iincN (L' := [some (.ref a0), some (.int (nI side)), some (.int (nI (m + 1)))]) hX dX7_layClasses_18 rfl (by decide) rfl ?_
      refine g_goto (tgt := 9) hX dX7_layClasses_21 (by decide) ?_
      have hlt : m < clM w side := by
        rcases Nat.lt_or_ge m (clM w side) with h | h
        · exact h
        · rw [show m = clM w side by omega, hMs] at h15; cases h15
      exact g_to (ih hlt q2 (fun q3 e1 e2 => K q3 e1 (fun k hk => (e2 k hk).trans (hp2 k hk)))) ⟨rfl, rfl, rfl, trivial⟩
  refine g_iconst hX dX7_layClasses_0 kn_i_0 ?_
  refine g_istore_n (L' := [some (.ref a0), some (.int (nI 0)), none]) hX dX7_layClasses_1 (by decide) rfl ?_
  refine g_iload_n hX dX7_layClasses_2 rfl ?_
  refine g_iconst hX dX7_layClasses_3 kn_i_2 ?_
  refine g_icmpN_ge (tgt := 37) hX dX7_layClasses_4 (by decide) (by decide) (by decide) (fun h => absurd h (by decide)) (fun _ => ?_)
  refine g_iconst hX dX7_layClasses_7 kn_i_0 ?_
  refine g_istore_n (L' := [some (.ref a0), some (.int (nI 0)), some (.int (nI 0))]) hX dX7_layClasses_8 (by decide) rfl ?_
  refine g_to (inner cl 0 (by omega) 0 (by omega) q (fun q2 e1 e2 => ?_)) ⟨rfl, rfl, rfl, trivial⟩
  refine g_aload_n hX dX7_layClasses_24 rfl ?_
  refine g_getf hX dX7_layClasses_25 fk_X7_35 0 rfl hk ?_
  refine g_iload_n hX dX7_layClasses_28 rfl ?_
  refine g_iload_n hX dX7_layClasses_29 rfl ?_
  refine g_iast (ws' := [(a0, .inr (8, fs)), (a1, .inl (D.1 100, 3318, .inl w)), (a7, .inl (D.1 100, 16, .inl q2)), (a8, .inl (D.1 100, 2, .inl (upd cl 0 (nI (clM w 0)))))]) hX dX7_layClasses_30 3 rfl (by decide) (by omega) rfl ?_
  refine g_iincN (L' := [some (.ref a0), some (.int (nI 1)), some (.int (nI (clM w 0)))]) hX dX7_layClasses_31 rfl (by decide) rfl ?_
  refine g_goto (tgt := 2) hX dX7_layClasses_34 (by decide) ?_
  refine g_iload_n hX dX7_layClasses_2 rfl ?_
  refine g_iconst hX dX7_layClasses_3 kn_i_2 ?_
  refine g_icmpN_ge (tgt := 37) hX dX7_layClasses_4 (by decide) (by decide) (by decide) (fun h => absurd h (by decide)) (fun _ => ?_)
  refine g_iconst hX dX7_layClasses_7 kn_i_0 ?_
  refine g_istore_n (L' := [some (.ref a0), some (.int (nI 1)), some (.int (nI 0))]) hX dX7_layClasses_8 (by decide) rfl ?_
  refine g_to (inner (upd cl 0 (nI (clM w 0))) 1 (by omega) 0 (by omega) q2 (fun q3 e3 e4 => ?_)) ⟨rfl, rfl, rfl, trivial⟩
  refine g_aload_n hX dX7_layClasses_24 rfl ?_
  refine g_getf hX dX7_layClasses_25 fk_X7_35 0 rfl hk ?_
  refine g_iload_n hX dX7_layClasses_28 rfl ?_
  refine g_iload_n hX dX7_layClasses_29 rfl ?_
  refine g_iast (ws' := [(a0, .inr (8, fs)), (a1, .inl (D.1 100, 3318, .inl w)), (a7, .inl (D.1 100, 16, .inl q3)), (a8, .inl (D.1 100, 2, .inl (upd (upd cl 0 (nI (clM w 0))) 1 (nI (clM w 1)))))]) hX dX7_layClasses_30 3 rfl (by decide) (by omega) rfl ?_
  refine g_iincN (L' := [some (.ref a0), some (.int (nI 2)), some (.int (nI (clM w 1)))]) hX dX7_layClasses_31 rfl (by decide) rfl ?_
  refine g_goto (tgt := 2) hX dX7_layClasses_34 (by decide) ?_
  refine g_iload_n hX dX7_layClasses_2 rfl ?_
  refine g_iconst hX dX7_layClasses_3 kn_i_2 ?_
  refine g_icmpN_ge (tgt := 37) hX dX7_layClasses_4 (by decide) (by decide) (by decide) (fun _ => ?_) (fun h => absurd (by decide) h)
  subst hQ
  exact g_vret hX dX7_layClasses_37 rfl (by rw [show layQ w q = q3 from layQ_eq e1 e2 e3 e4]; rfl) rfl rfl
