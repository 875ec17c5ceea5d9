/-! the law's loop -/
set_option maxRecDepth 100000 in
set_option maxHeartbeats 4000000 in
theorem law_loop {X : CT} {l : Launch} {D : va_G} {nm : String} {rt : Option FieldType} {rf rl mc ms : Nat} {Q : State → Prop} {b N : Nat} {xs : Nat → Int32} {q ad im : Nat → Nat} (hX : CX X l D RL nm cL_law 4 rt rf rl mc ms) (hs : SX X b N xs) (hN : N ≤ 3584) (hrm : 40 ≤ rf ∧ 2000 ≤ rl) (hend : ∀ (ws : va_W) (ce sl : Nat) (L : List (Option Value)), ce ≤ mc → sl ≤ ms → G X Q ws ce sl 888 L [.int (nI 1)]) : ∀ (n i ce sl : Nat) (w : Nat → Int32) (u fi pc : Nat) (rh : Nat → Nat → Int32) (vv : Nat → Int32) (s : Nat) (sgI : Nat → Int32) (sgF : Nat → Nat → Int32) (sz : Nat) (t : Nat → Nat) (nx cl fn fa : Int32) (v : Nat → Int32) (ev : Int32) (wr : Nat) (bo bt bs : Nat → Int32) (ir : Nat → Nat → Int32) (iv iss ik wl : Nat → Int32) (kp : Int32) (qn cn : Nat → Int32) (pa fl : Nat) (lo : Nat → Int32) (ln : Nat) (mwl : Nat → Int32), N ≤ i + 7 * n + 6 → i ≤ 3584 + 7 → ce + 2 * n ≤ mc → sl + 20 * n ≤ ms → u + 12 * n < 1000000 → LInv w u fi pc rh s sgI sgF sz t wr kp ir iss ik → G X Q (lawC D q ad im w u fi pc rh vv s sgI sgF sz t nx cl fn fa v ev wr bo bt bs ir iv iss ik wl kp qn cn pa fl lo ln mwl) ce sl 18 [some (.ref b), some (.ref (q 0)), some (.ref (q 40)), some (.int (nI i))] [] := by
  intro n
  induction n with
  | zero =>
    intro i ce sl w u fi pc rh vv s sgI sgF sz t nx cl fn fa v ev wr bo bt bs ir iv iss ik wl kp qn cn pa fl lo ln mwl h1 hi0 h2 h3 h4 hI
    refine g_iload_n hX dL_law_18 rfl ?_
    refine g_aload_n hX dL_law_19 rfl ?_
    refine g_slen hX hs dL_law_20 ?_
    refine g_bipush hX dL_law_21 kn_b_7 ?_
    refine g_isub hX dL_law_23 ?_
    refine g_icmp_gt (tgt := 887) hX dL_law_24 (by decide) (fun _ => ?_) (fun h => ?_)
    · refine g_iconst hX dL_law_887 kn_i_1 ?_
      exact hend _ _ _ _ (by omega) (by omega)
    · have hi : i + 7 ≤ N := by
        rw [Int32.lt_iff_toInt_lt, pk_sub_toInt (by omega) (by omega), nI_toInt (by omega)] at h
        omega
      omega
  | succ n ih =>
    intro i ce sl w u fi pc rh vv s sgI sgF sz t nx cl fn fa v ev wr bo bt bs ir iv iss ik wl kp qn cn pa fl lo ln mwl h1 hi0 h2 h3 h4 hI
    refine g_iload_n hX dL_law_18 rfl ?_
    refine g_aload_n hX dL_law_19 rfl ?_
    refine g_slen hX hs dL_law_20 ?_
    refine g_bipush hX dL_law_21 kn_b_7 ?_
    refine g_isub hX dL_law_23 ?_
    refine g_icmp_gt (tgt := 887) hX dL_law_24 (by decide) (fun _ => ?_) (fun h => ?_)
    · refine g_iconst hX dL_law_887 kn_i_1 ?_
      exact hend _ _ _ _ (by omega) (by omega)
    · have hi : i + 7 ≤ N := by
        rw [Int32.lt_iff_toInt_lt, pk_sub_toInt (by omega) (by omega), nI_toInt (by omega)] at h
        omega
      have nxt : Nxt X Q D q ad im b i u ce sl := by
        intro w' u' fi' pc' rh' vv' s' sgI' sgF' sz' t' nx' cl' fn' fa' v' ev' wr' bo' bt' bs' ir' iv' iss' ik' wl' kp' qn' cn' pa' fl' lo' ln' mwl' ce2 sl2 g1 g2 g3 gI
        refine g_iinc (L' := [some (.ref b), some (.ref (q 0)), some (.ref (q 40)), some (.int (nI (i + 7)))]) hX dL_law_881 rfl (nI_add i 7) (by decide) rfl ?_
        refine g_goto (tgt := 18) hX dL_law_884 (by decide) ?_
        exact ih (i + 7) ce2 sl2 w' u' fi' pc' rh' vv' s' sgI' sgF' sz' t' nx' cl' fn' fa' v' ev' wr' bo' bt' bs' ir' iv' iss' ik' wl' kp' qn' cn' pa' fl' lo' ln' mwl' (by omega) (by omega) (by omega) (by omega) (by omega) gI
      refine g_aload_n hX dL_law_27 rfl ?_
      refine g_iload_n hX dL_law_28 rfl ?_
      refine g_sld hX hs dL_law_29 (by omega) (by omega) ?_
      refine g_bipush hX dL_law_30 kn_b_31 ?_
      refine g_iand hX dL_law_32 ?_
      generalize xs i &&& nI 31 = v9
      by_cases hz0 : v9 = nI 0
      · subst hz0
        refine g_tswj (tgt := 140) hX dL_law_33 0 rfl (by decide) rfl (by decide) ?_
        exact lop_feed hX hs (by omega) hi hrm ⟨by omega, by omega⟩ (by omega) hI nxt
      by_cases hz1 : v9 = nI 1
      · subst hz1
        refine g_tswj (tgt := 163) hX dL_law_33 1 rfl (by decide) rfl (by decide) ?_
        exact lop_tell hX hs (by omega) hi hrm ⟨by omega, by omega⟩ (by omega) hI nxt
      by_cases hz2 : v9 = nI 2
      · subst hz2
        refine g_tswj (tgt := 176) hX dL_law_33 2 rfl (by decide) rfl (by decide) ?_
        exact lop_fault hX hs (by omega) hi hrm ⟨by omega, by omega⟩ (by omega) hI nxt
      by_cases hz3 : v9 = nI 3
      · subst hz3
        refine g_tswj (tgt := 189) hX dL_law_33 3 rfl (by decide) rfl (by decide) ?_
        exact lop_told hX hs (by omega) hi hrm ⟨by omega, by omega⟩ (by omega) hI nxt
      by_cases hz4 : v9 = nI 4
      · subst hz4
        refine g_tswj (tgt := 212) hX dL_law_33 4 rfl (by decide) rfl (by decide) ?_
        exact lop_edge hX hs (by omega) hi hrm ⟨by omega, by omega⟩ (by omega) hI nxt
      by_cases hz5 : v9 = nI 5
      · subst hz5
        refine g_tswj (tgt := 255) hX dL_law_33 5 rfl (by decide) rfl (by decide) ?_
        exact lop_at hX hs (by omega) hi hrm ⟨by omega, by omega⟩ (by omega) hI nxt
      by_cases hz6 : v9 = nI 6
      · subst hz6
        refine g_tswj (tgt := 288) hX dL_law_33 6 rfl (by decide) rfl (by decide) ?_
        exact lop_far hX hs (by omega) hi hrm ⟨by omega, by omega⟩ (by omega) hI nxt
      by_cases hz7 : v9 = nI 7
      · subst hz7
        refine g_tswj (tgt := 331) hX dL_law_33 7 rfl (by decide) rfl (by decide) ?_
        exact lop_pair hX hs (by omega) hi hrm ⟨by omega, by omega⟩ (by omega) hI nxt
      by_cases hz8 : v9 = nI 8
      · subst hz8
        refine g_tswj (tgt := 374) hX dL_law_33 8 rfl (by decide) rfl (by decide) ?_
        exact lop_cell hX hs (by omega) hi hrm ⟨by omega, by omega⟩ (by omega) hI nxt
      by_cases hz9 : v9 = nI 9
      · subst hz9
        refine g_tswj (tgt := 417) hX dL_law_33 9 rfl (by decide) rfl (by decide) ?_
        exact lop_line hX hs (by omega) hi hrm ⟨by omega, by omega⟩ (by omega) hI nxt
      by_cases hz10 : v9 = nI 10
      · subst hz10
        refine g_tswj (tgt := 450) hX dL_law_33 10 rfl (by decide) rfl (by decide) ?_
        exact lop_word hX hs (by omega) hi hrm ⟨by omega, by omega⟩ (by omega) hI nxt
      by_cases hz11 : v9 = nI 11
      · subst hz11
        refine g_tswj (tgt := 525) hX dL_law_33 11 rfl (by decide) rfl (by decide) ?_
        exact lop_letter hX hs (by omega) hi hrm ⟨by omega, by omega⟩ (by omega) hI nxt
      by_cases hz12 : v9 = nI 12
      · subst hz12
        refine g_tswj (tgt := 578) hX dL_law_33 12 rfl (by decide) rfl (by decide) ?_
        exact lop_forget hX hs (by omega) hi hrm ⟨by omega, by omega⟩ (by omega) hI nxt
      by_cases hz13 : v9 = nI 13
      · subst hz13
        refine g_tswj (tgt := 601) hX dL_law_33 13 rfl (by decide) rfl (by decide) ?_
        exact lop_judge hX hs (by omega) hi hrm ⟨by omega, by omega⟩ (by omega) hI nxt
      by_cases hz14 : v9 = nI 14
      · subst hz14
        refine g_tswj (tgt := 644) hX dL_law_33 14 rfl (by decide) rfl (by decide) ?_
        exact lop_withdraw hX hs (by omega) hi hrm ⟨by omega, by omega⟩ (by omega) hI nxt
      by_cases hz15 : v9 = nI 15
      · subst hz15
        refine g_tswj (tgt := 677) hX dL_law_33 15 rfl (by decide) rfl (by decide) ?_
        exact lop_term hX hs (by omega) hi hrm ⟨by omega, by omega⟩ (by omega) hI nxt
      by_cases hz16 : v9 = nI 16
      · subst hz16
        refine g_tswj (tgt := 710) hX dL_law_33 16 rfl (by decide) rfl (by decide) ?_
        exact lop_drift hX hs (by omega) hi hrm ⟨by omega, by omega⟩ (by omega) hI nxt
      by_cases hz17 : v9 = nI 17
      · subst hz17
        refine g_tswj (tgt := 733) hX dL_law_33 17 rfl (by decide) rfl (by decide) ?_
        exact lop_undo hX hs (by omega) hi hrm ⟨by omega, by omega⟩ (by omega) hI nxt
      by_cases hz18 : v9 = nI 18
      · subst hz18
        refine g_tswj (tgt := 756) hX dL_law_33 18 rfl (by decide) rfl (by decide) ?_
        exact lop_write hX hs (by omega) hi hrm ⟨by omega, by omega⟩ (by omega) hI nxt
      by_cases hz19 : v9 = nI 19
      · subst hz19
        refine g_tswj (tgt := 799) hX dL_law_33 19 rfl (by decide) rfl (by decide) ?_
        exact lop_tear hX hs (by omega) hi hrm ⟨by omega, by omega⟩ (by omega) hI nxt
      by_cases hz20 : v9 = nI 20
      · subst hz20
        refine g_tswj (tgt := 812) hX dL_law_33 20 rfl (by decide) rfl (by decide) ?_
        exact lop_seed hX hs (by omega) hi hrm ⟨by omega, by omega⟩ (by omega) hI nxt
      by_cases hz21 : v9 = nI 21
      · subst hz21
        refine g_tswj (tgt := 835) hX dL_law_33 21 rfl (by decide) rfl (by decide) ?_
        exact lop_keep hX hs (by omega) hi hrm ⟨by omega, by omega⟩ (by omega) hI nxt
      by_cases hz22 : v9 = nI 22
      · subst hz22
        refine g_tswj (tgt := 858) hX dL_law_33 22 rfl (by decide) rfl (by decide) ?_
        exact lop_goBack hX hs (by omega) hi hrm ⟨by omega, by omega⟩ (by omega) hI nxt
      have hsw : v9.toInt < 0 ∨ 22 < v9.toInt := sw_out (lo := 0) (n := 23) (by decide) (fun j hj => match j, hj with | 0, _ => hz0 | 1, _ => hz1 | 2, _ => hz2 | 3, _ => hz3 | 4, _ => hz4 | 5, _ => hz5 | 6, _ => hz6 | 7, _ => hz7 | 8, _ => hz8 | 9, _ => hz9 | 10, _ => hz10 | 11, _ => hz11 | 12, _ => hz12 | 13, _ => hz13 | 14, _ => hz14 | 15, _ => hz15 | 16, _ => hz16 | 17, _ => hz17 | 18, _ => hz18 | 19, _ => hz19 | 20, _ => hz20 | 21, _ => hz21 | 22, _ => hz22 | j + 23, hj => absurd hj (by omega))
      refine g_tswo (tgt := 881) hX dL_law_33 hsw (by decide) ?_
      exact nxt w u fi pc rh vv s sgI sgF sz t nx cl fn fa v ev wr bo bt bs ir iv iss ik wl kp qn cn pa fl lo ln mwl ce sl (by omega) (by omega) (by omega) hI
