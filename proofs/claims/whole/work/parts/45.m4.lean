set_option maxRecDepth 100000 in
set_option maxHeartbeats 4000000 in
theorem ct_X7_copyRow {l : Launch} {D : va_G} {a0 a1 : Nat} {fs : List Value} {w : Nat → Int32} {f t : Nat} (hf : fs[0]? = some (.ref a1)) (hft : f ≠ t) (h1 : f < 21) (h2 : t < 21) : Cf l D yX7_copyRow cX7_copyRow 4 none 0 0 [.ref a0, .int (nI f), .int (nI t)] [(a0, .inr (8, fs)), (a1, .inl (D.1 100, 3318, .inl w))] none [(a0, .inr (8, fs)), (a1, .inl (D.1 100, 3318, .inl (cpRow w f t)))] := by
  refine Ct.ofG (by decide) (Nat.le_of_ble_eq_true rfl) ?_
  intro X hX
  have hX : CX X l D RX7 "copyRow" cX7_copyRow 4 none 0 0 0 0 := hX
  show G X (QF X none [(a0, .inr (8, fs)), (a1, .inl (D.1 100, 3318, .inl (cpRow w f t)))]) [(a0, .inr (8, fs)), (a1, .inl (D.1 100, 3318, .inl w))] 0 0 0 [some (.ref a0), some (.int (nI f)), some (.int (nI t)), none] []
  generalize hQ : QF X none [(a0, .inr (8, fs)), (a1, .inl (D.1 100, 3318, .inl (cpRow w f t)))] = Q
  refine g_iconst hX dX7_copyRow_0 kn_i_0 ?_
  refine g_istore_n (L' := [some (.ref a0), some (.int (nI f)), some (.int (nI t)), some (.int (nI 0))]) hX dX7_copyRow_1 (by decide) rfl ?_
  have loop2 : ∀ k : Nat, k ≤ 158 → G X Q [(a0, .inr (8, fs)), (a1, .inl (D.1 100, 3318, .inl (cpTo w f t k)))] 0 0 2 [some (.ref a0), some (.int (nI f)), some (.int (nI t)), some (.int (nI k))] [] := by
    refine loopN 158 (fun k hh2 ih2 => ?_)
    refine g_iload_n hX dX7_copyRow_2 rfl ?_
    refine g_sipush hX dX7_copyRow_3 kn_s_158 ?_
    refine g_icmpN_ge (tgt := 39) hX dX7_copyRow_6 (by decide) (by omega) (by omega) (fun h6 => ?_) (fun h6 => ?_)
    · skip
      obtain rfl : k = 158 := by omega
      subst hQ
      exact g_vret hX dX7_copyRow_39 rfl (rfl) rfl rfl
    · skip
      refine g_aload_n hX dX7_copyRow_9 rfl ?_
      refine g_getf hX dX7_copyRow_10 fk_X7_7 0 rfl hf ?_
      refine g_sipush hX dX7_copyRow_13 kn_s_158 ?_
      refine g_iload_n hX dX7_copyRow_16 rfl ?_
      refine g_imulN hX dX7_copyRow_17 ?_
      refine g_iload_n hX dX7_copyRow_18 rfl ?_
      refine g_iaddN hX dX7_copyRow_19 ?_
      refine g_aload_n hX dX7_copyRow_20 rfl ?_
      refine g_getf hX dX7_copyRow_21 fk_X7_7 0 rfl hf ?_
      refine g_sipush hX dX7_copyRow_24 kn_s_158 ?_
      refine g_iload_n hX dX7_copyRow_27 rfl ?_
      refine g_imulN hX dX7_copyRow_28 ?_
      refine g_iload_n hX dX7_copyRow_29 rfl ?_
      refine g_iaddN hX dX7_copyRow_30 ?_
      refine g_iald hX dX7_copyRow_31 1 rfl (by decide) (by omega) ?_
      refine g_iast (ws' := [(a0, .inr (8, fs)), (a1, .inl (D.1 100, 3318, .inl (upd (cpTo w f t k) ((158 * t) + k) ((cpTo w f t k) ((158 * f) + k)))))]) hX dX7_copyRow_32 1 rfl (by decide) (by omega) rfl ?_
      refine g_iincN (L' := [some (.ref a0), some (.int (nI f)), some (.int (nI t)), some (.int (nI (k + 1)))]) hX dX7_copyRow_33 rfl (by decide) rfl ?_
      refine g_goto (tgt := 2) hX dX7_copyRow_36 (by decide) ?_
      exact g_fin (ih2 (by omega) ) (by rw [cpTo_succ w hft (by omega)]) rfl ⟨rfl, rfl, rfl, rfl, trivial⟩
  exact g_fin (loop2 0 (by omega) ) (by rw [cpTo_0]) rfl ⟨rfl, rfl, rfl, rfl, trivial⟩
set_option maxRecDepth 100000 in
set_option maxHeartbeats 4000000 in
theorem ct_X7_remember {l : Launch} {D : va_G} {a0 a1 a2 a3 a4 a5 a6 a7 a8 a9 a10 uk sz wr pa fl ln : Nat} {kp sd fa : Int32} {w : Nat → Int32} (hu : uk ≤ 16) : Cf l D yX7_remember cX7_remember 2 none 1 23 [.ref a0] [(a0, .inr (8, [.ref a1, .int (nI uk), .int kp, .int sd, .ref a2, .ref a3, .int (nI sz), .int fa, .ref a4, .ref a5, .ref a6, .int (nI wr), .ref a7, .ref a8, .int (nI pa), .int (nI fl), .ref a9, .int (nI ln), .ref a10])), (a1, .inl (D.1 100, 3318, .inl w))] none [(a0, .inr (8, [.ref a1, .int (nI (if 16 ≤ uk then 16 else uk + 1)), .int kp, .int sd, .ref a2, .ref a3, .int (nI sz), .int fa, .ref a4, .ref a5, .ref a6, .int (nI wr), .ref a7, .ref a8, .int (nI pa), .int (nI fl), .ref a9, .int (nI ln), .ref a10])), (a1, .inl (D.1 100, 3318, .inl (memTo w 0)))] := by
  refine Ct.ofG (by decide) (Nat.le_of_ble_eq_true rfl) ?_
  intro X hX
  have hX : CX X l D RX7 "remember" cX7_remember 2 none 1 23 0 0 := hX
  show G X (QF X none [(a0, .inr (8, [.ref a1, .int (nI (if 16 ≤ uk then 16 else uk + 1)), .int kp, .int sd, .ref a2, .ref a3, .int (nI sz), .int fa, .ref a4, .ref a5, .ref a6, .int (nI wr), .ref a7, .ref a8, .int (nI pa), .int (nI fl), .ref a9, .int (nI ln), .ref a10])), (a1, .inl (D.1 100, 3318, .inl (memTo w 0)))]) [(a0, .inr (8, [.ref a1, .int (nI uk), .int kp, .int sd, .ref a2, .ref a3, .int (nI sz), .int fa, .ref a4, .ref a5, .ref a6, .int (nI wr), .ref a7, .ref a8, .int (nI pa), .int (nI fl), .ref a9, .int (nI ln), .ref a10])), (a1, .inl (D.1 100, 3318, .inl w))] 0 0 0 [some (.ref a0), none] []
  generalize hQ : QF X none [(a0, .inr (8, [.ref a1, .int (nI (if 16 ≤ uk then 16 else uk + 1)), .int kp, .int sd, .ref a2, .ref a3, .int (nI sz), .int fa, .ref a4, .ref a5, .ref a6, .int (nI wr), .ref a7, .ref a8, .int (nI pa), .int (nI fl), .ref a9, .int (nI ln), .ref a10])), (a1, .inl (D.1 100, 3318, .inl (memTo w 0)))] = Q
  refine g_bipush hX dX7_remember_0 kn_b_16 ?_
  refine g_istore_n (L' := [some (.ref a0), some (.int (nI 16))]) hX dX7_remember_2 (by decide) rfl ?_
  have loop3 : ∀ k : Nat, k ≤ 16 → G X Q [(a0, .inr (8, [.ref a1, .int (nI uk), .int kp, .int sd, .ref a2, .ref a3, .int (nI sz), .int fa, .ref a4, .ref a5, .ref a6, .int (nI wr), .ref a7, .ref a8, .int (nI pa), .int (nI fl), .ref a9, .int (nI ln), .ref a10])), (a1, .inl (D.1 100, 3318, .inl (memTo w k)))] 0 0 3 [some (.ref a0), some (.int (nI k))] [] := by
    refine loopD (fun k ih3 hh3 => ?_)
    refine g_iload_n hX dX7_remember_3 rfl ?_
    refine g_ifN_le (tgt := 21) hX dX7_remember_4 (by decide) (by omega) (fun h4 => ?_) (fun h4 => ?_)
    · skip
      subst h4
      refine g_aload_n hX dX7_remember_21 rfl ?_
      refine g_aload_n hX dX7_remember_22 rfl ?_
      refine g_getf hX dX7_remember_23 fk_X7_48 0 rfl rfl ?_
      refine g_bipush hX dX7_remember_26 kn_b_16 ?_
      have J28 : ∀ (v28_0 : Nat), (v28_0 = (if 16 ≤ uk then 16 else uk + 1)) → G X Q [(a0, .inr (8, [.ref a1, .int (nI uk), .int kp, .int sd, .ref a2, .ref a3, .int (nI sz), .int fa, .ref a4, .ref a5, .ref a6, .int (nI wr), .ref a7, .ref a8, .int (nI pa), .int (nI fl), .ref a9, .int (nI ln), .ref a10])), (a1, .inl (D.1 100, 3318, .inl (memTo w 0)))] 0 0 42 [some (.ref a0), some (.int (nI 0))] [.int (nI v28_0), .ref a0] := by
        intro v28_0 ev28_0
        subst ev28_0
        refine g_puti (ws' := [(a0, .inr (8, [.ref a1, .int (nI (if 16 ≤ uk then 16 else uk + 1)), .int kp, .int sd, .ref a2, .ref a3, .int (nI sz), .int fa, .ref a4, .ref a5, .ref a6, .int (nI wr), .ref a7, .ref a8, .int (nI pa), .int (nI fl), .ref a9, .int (nI ln), .ref a10])), (a1, .inl (D.1 100, 3318, .inl (memTo w 0)))]) hX dX7_remember_42 fp_X7_48 0 rfl (Nat.le_of_ble_eq_true rfl) rfl ?_
        subst hQ
        exact g_vret hX dX7_remember_45 rfl (rfl) rfl rfl
      refine g_icmpN_ge (tgt := 40) hX dX7_remember_28 (by decide) (by omega) (by omega) (fun h28 => ?_) (fun h28 => ?_)
      · skip
        refine g_bipush hX dX7_remember_40 kn_b_16 ?_
        exact g_to (J28 16 (if_pos h28).symm) ⟨rfl, rfl, trivial⟩
      · skip
        refine g_aload_n hX dX7_remember_31 rfl ?_
        refine g_getf hX dX7_remember_32 fk_X7_48 0 rfl rfl ?_
        refine g_iconst hX dX7_remember_35 kn_i_1 ?_
        refine g_iaddN hX dX7_remember_36 ?_
        refine g_goto (tgt := 42) hX dX7_remember_37 (by decide) ?_
        exact g_to (J28 (uk + 1) (if_neg h28).symm) ⟨rfl, rfl, trivial⟩
    · skip
      obtain ⟨j, rfl⟩ : ∃ j, k = j + 1 := ⟨k - 1, by omega⟩
      refine g_aload_n hX dX7_remember_7 rfl ?_
      refine g_iload_n hX dX7_remember_8 rfl ?_
      refine g_iconst hX dX7_remember_9 kn_i_1 ?_
      refine g_isubN hX dX7_remember_10 (by omega) ?_
      refine g_iload_n hX dX7_remember_11 rfl ?_
      refine g_callFv (ws' := [(a0, .inr (8, [.ref a1, .int (nI uk), .int kp, .int sd, .ref a2, .ref a3, .int (nI sz), .int fa, .ref a4, .ref a5, .ref a6, .int (nI wr), .ref a7, .ref a8, .int (nI pa), .int (nI fl), .ref a9, .int (nI ln), .ref a10])), (a1, .inl (D.1 100, 3318, .inl (cpRow (memTo w (j + 1)) ((j + 1) - 1) (j + 1))))]) hX dX7_remember_12 cw_X7_44 (ct_X7_copyRow  (by first | with_reducible assumption | rfl) (by omega) (by omega) (by omega)) 0 8 [0, 1] rfl rfl rfl rfl (by decide) rfl rfl ⟨by decide, by decide⟩ (Nat.le_of_ble_eq_true rfl) (Nat.le_refl _) (Nat.le_refl _) rfl ?_
      refine g_iinc (L' := [some (.ref a0), some (.int ((nI (j + 1)) + (-1)))]) hX dX7_remember_15 rfl (by rfl) (by decide) rfl ?_
      refine g_goto (tgt := 3) hX dX7_remember_18 (by decide) ?_
      exact g_fin (ih3 j (by omega) (by omega)) (by rw [show j + 1 - 1 = j from rfl, memTo_pred w (by omega)]) rfl ⟨rfl, (congrArg some (congrArg Value.int (pk_m1 j))), trivial⟩
  exact g_fin (loop3 16 (by omega)) (by rw [memTo_16]) rfl ⟨rfl, rfl, trivial⟩
set_option maxRecDepth 100000 in
set_option maxHeartbeats 4000000 in
theorem ct_X7_fits {l : Launch} {D : va_G} {a0 a1 a7 : Nat} {fs : List Value} {w q : Nat → Int32} {c side num : Nat} {p : Nat → Nat} (hf : fs[0]? = some (.ref a1)) (hg : fs[12]? = some (.ref a7)) (hc : c < 8) (hs : side < 2) (hn : num < 2147483648) (hp : ∀ d, d < c → p d < 2147483648) (hq : ∀ d, d < c → q (8 * side + d) = nI (p d)) : Cf l D yX7_fits cX7_fits 6 (some .boolean) 2 51 [.ref a0, .int (nI c), .int (nI side), .int (nI num)] [(a0, .inr (8, fs)), (a1, .inl (D.1 100, 3318, .inl w)), (a7, .inl (D.1 100, 16, .inl q))] (some (.int (bI (fitN (knW w) (cmpW w side c) p num c)))) [(a0, .inr (8, fs)), (a1, .inl (D.1 100, 3318, .inl w)), (a7, .inl (D.1 100, 16, .inl q))] := by
  refine Ct.ofG (by decide) (Nat.le_of_ble_eq_true rfl) ?_
  intro X hX
  have hX : CX X l D RX7 "fits" cX7_fits 6 (some .boolean) 2 51 0 0 := hX
  show G X (QF X (some (.int (bI (fitN (knW w) (cmpW w side c) p num c)))) [(a0, .inr (8, fs)), (a1, .inl (D.1 100, 3318, .inl w)), (a7, .inl (D.1 100, 16, .inl q))]) [(a0, .inr (8, fs)), (a1, .inl (D.1 100, 3318, .inl w)), (a7, .inl (D.1 100, 16, .inl q))] 0 0 0 [some (.ref a0), some (.int (nI c)), some (.int (nI side)), some (.int (nI num)), none, none] []
  generalize hQ : QF X (some (.int (bI (fitN (knW w) (cmpW w side c) p num c)))) [(a0, .inr (8, fs)), (a1, .inl (D.1 100, 3318, .inl w)), (a7, .inl (D.1 100, 16, .inl q))] = Q
  refine g_iconst hX dX7_fits_0 kn_i_1 ?_
  refine g_istore (L' := [some (.ref a0), some (.int (nI c)), some (.int (nI side)), some (.int (nI num)), some (.int (nI 1)), none]) hX dX7_fits_1 (by decide) rfl ?_
  refine g_iconst hX dX7_fits_3 kn_i_0 ?_
  refine g_istore (L' := [some (.ref a0), some (.int (nI c)), some (.int (nI side)), some (.int (nI num)), some (.int (nI 1)), some (.int (nI 0))]) hX dX7_fits_4 (by decide) rfl ?_
  have loop6 : ∀ d : Nat, d ≤ c → G X Q [(a0, .inr (8, fs)), (a1, .inl (D.1 100, 3318, .inl w)), (a7, .inl (D.1 100, 16, .inl q))] 0 0 6 [some (.ref a0), some (.int (nI c)), some (.int (nI side)), some (.int (nI num)), some (.int (bI (fitN (knW w) (cmpW w side c) p num d))), some (.int (nI d))] [] := by
    refine loopN c (fun d hh6 ih6 => ?_)
    refine g_iload hX dX7_fits_6 rfl ?_
    refine g_iload_n hX dX7_fits_8 rfl ?_
    refine g_icmpN_ge (tgt := 71) hX dX7_fits_9 (by decide) (by omega) (by omega) (fun h9 => ?_) (fun h9 => ?_)
    · skip
      obtain rfl : d = c := by omega
      refine g_iload hX dX7_fits_71 rfl ?_
      subst hQ
      exact g_zret _ hX dX7_fits_73 rfl (rfl) (rfl) rfl rfl
    · skip
      refine g_iload hX dX7_fits_12 rfl ?_
      have J14 : ∀ (v14_0 : Bool), (v14_0 = ((fitN (knW w) (cmpW w side c) p num d) && (!(kn (w 0) d) || (!(decide ((p d) = num)) || (!(decide ((w (1 + 0)) < (farOf w c d side)))))))) → G X Q [(a0, .inr (8, fs)), (a1, .inl (D.1 100, 3318, .inl w)), (a7, .inl (D.1 100, 16, .inl q))] 0 0 63 [some (.ref a0), some (.int (nI c)), some (.int (nI side)), some (.int (nI num)), some (.int (bI (fitN (knW w) (cmpW w side c) p num d))), some (.int (nI d))] [.int (bI v14_0)] := by
        intro v14_0 ev14_0
        subst ev14_0
        refine g_istore (L' := [some (.ref a0), some (.int (nI c)), some (.int (nI side)), some (.int (nI num)), some (.int (bI ((fitN (knW w) (cmpW w side c) p num d) && (!(kn (w 0) d) || (!(decide ((p d) = num)) || (!(decide ((w (1 + 0)) < (farOf w c d side))))))))), some (.int (nI d))]) hX dX7_fits_63 (by decide) rfl ?_
        refine g_iincN (L' := [some (.ref a0), some (.int (nI c)), some (.int (nI side)), some (.int (nI num)), some (.int (bI ((fitN (knW w) (cmpW w side c) p num d) && (!(kn (w 0) d) || (!(decide ((p d) = num)) || (!(decide ((w (1 + 0)) < (farOf w c d side))))))))), some (.int (nI (d + 1)))]) hX dX7_fits_65 rfl (by decide) rfl ?_
        refine g_goto (tgt := 6) hX dX7_fits_68 (by decide) ?_
        exact g_fin (ih6 (by omega) ) (rfl) rfl ⟨rfl, rfl, rfl, rfl, rfl, rfl, trivial⟩
      refine g_ifb_eq (tgt := 62) hX dX7_fits_14 (by decide) (fun h14 => ?_) (fun h14 => ?_)
      · skip
        refine g_iconst hX dX7_fits_62 kn_i_0 ?_
        refine g_top (v' := bI false) rfl ?_
        exact g_to (J14 false (by rw [h14] <;> rfl)) ⟨rfl, rfl, rfl, rfl, rfl, rfl, trivial⟩
      · skip
        refine g_aload_n hX dX7_fits_17 rfl ?_
        refine g_iload hX dX7_fits_18 rfl ?_
        refine g_callRi hX dX7_fits_20 cw_X7_69 (ct_X7_isKnown_N  (by first | with_reducible assumption | rfl) (by omega)) 0 8 [0, 1] rfl rfl rfl rfl (by decide) rfl ⟨by decide, by decide⟩ (Nat.le_of_ble_eq_true rfl) (Nat.le_refl _) (Nat.le_refl _) ?_
        have J23 : ∀ (v23_0 : Bool), (v23_0 = (!(kn (w 0) d) || (!(decide ((p d) = num)) || (!(decide ((w (1 + 0)) < (farOf w c d side))))))) → G X Q [(a0, .inr (8, fs)), (a1, .inl (D.1 100, 3318, .inl w)), (a7, .inl (D.1 100, 16, .inl q))] 0 0 63 [some (.ref a0), some (.int (nI c)), some (.int (nI side)), some (.int (nI num)), some (.int (bI (fitN (knW w) (cmpW w side c) p num d))), some (.int (nI d))] [.int (bI v23_0)] := by
          intro v23_0 ev23_0
          subst ev23_0
          exact g_to (J14 (!(kn (w 0) d) || (!(decide ((p d) = num)) || (!(decide ((w (1 + 0)) < (farOf w c d side)))))) (by rw [h14] <;> rfl)) ⟨rfl, rfl, rfl, rfl, rfl, rfl, trivial⟩
        refine g_ifb_eq (tgt := 58) hX dX7_fits_23 (by decide) (fun h23 => ?_) (fun h23 => ?_)
        · skip
          refine g_iconst hX dX7_fits_58 kn_i_1 ?_
          refine g_goto (tgt := 63) hX dX7_fits_59 (by decide) ?_
          refine g_top (v' := bI true) rfl ?_
          exact g_to (J23 true (by rw [h23] <;> rfl)) ⟨rfl, rfl, rfl, rfl, rfl, rfl, trivial⟩
        · skip
          refine g_aload_n hX dX7_fits_26 rfl ?_
          refine g_getf hX dX7_fits_27 fk_X7_32 0 rfl hg ?_
          refine g_bipush hX dX7_fits_30 kn_b_8 ?_
          refine g_iload_n hX dX7_fits_32 rfl ?_
          refine g_imulN hX dX7_fits_33 ?_
          refine g_iload hX dX7_fits_34 rfl ?_
          refine g_iaddN hX dX7_fits_36 ?_
          refine g_iald hX dX7_fits_37 2 rfl (by decide) (by omega) ?_
          refine g_top (v' := nI (p d)) (hq d (by omega)) ?_
          have hpd := hp d (by omega)
          refine g_iload_n hX dX7_fits_38 rfl ?_
          have J39 : ∀ (v39_0 : Bool), (v39_0 = (!(decide ((p d) = num)) || (!(decide ((w (1 + 0)) < (farOf w c d side)))))) → G X Q [(a0, .inr (8, fs)), (a1, .inl (D.1 100, 3318, .inl w)), (a7, .inl (D.1 100, 16, .inl q))] 0 0 63 [some (.ref a0), some (.int (nI c)), some (.int (nI side)), some (.int (nI num)), some (.int (bI (fitN (knW w) (cmpW w side c) p num d))), some (.int (nI d))] [.int (bI v39_0)] := by
            intro v39_0 ev39_0
            subst ev39_0
            exact g_to (J23 (!(decide ((p d) = num)) || (!(decide ((w (1 + 0)) < (farOf w c d side))))) (by rw [h23] <;> rfl)) ⟨rfl, rfl, rfl, rfl, rfl, rfl, trivial⟩
          refine g_icmpN_ne (tgt := 58) hX dX7_fits_39 (by decide) (by omega) (by omega) (fun h39 => ?_) (fun h39 => ?_)
          · skip
            refine g_iconst hX dX7_fits_58 kn_i_1 ?_
            refine g_goto (tgt := 63) hX dX7_fits_59 (by decide) ?_
            refine g_top (v' := bI true) rfl ?_
            exact g_to (J39 true (by rw [(decide_eq_false h39)] <;> rfl)) ⟨rfl, rfl, rfl, rfl, rfl, rfl, trivial⟩
          · skip
            refine g_aload_n hX dX7_fits_42 rfl ?_
            refine g_iload_n hX dX7_fits_43 rfl ?_
            refine g_iload hX dX7_fits_44 rfl ?_
            refine g_iload_n hX dX7_fits_46 rfl ?_
            refine g_callRi hX dX7_fits_47 cw_X7_73 (ct_X7_farOf  (by first | with_reducible assumption | rfl) (by omega) (by omega) (by omega)) 0 8 [0, 1] rfl rfl rfl rfl (by decide) rfl ⟨by decide, by decide⟩ (Nat.le_of_ble_eq_true rfl) (Nat.le_refl _) (Nat.le_refl _) ?_
            refine g_aload_n hX dX7_fits_50 rfl ?_
            refine g_iconst hX dX7_fits_51 kn_i_0 ?_
            refine g_callRi hX dX7_fits_52 cw_X7_65 (ct_X7_termOf  (by first | with_reducible assumption | rfl) (by omega)) 0 8 [0, 1] rfl rfl rfl rfl (by decide) rfl ⟨by decide, by decide⟩ (Nat.le_of_ble_eq_true rfl) (Nat.le_refl _) (Nat.le_refl _) ?_
            have J55 : ∀ (v55_0 : Bool), (v55_0 = (!(decide ((w (1 + 0)) < (farOf w c d side))))) → G X Q [(a0, .inr (8, fs)), (a1, .inl (D.1 100, 3318, .inl w)), (a7, .inl (D.1 100, 16, .inl q))] 0 0 63 [some (.ref a0), some (.int (nI c)), some (.int (nI side)), some (.int (nI num)), some (.int (bI (fitN (knW w) (cmpW w side c) p num d))), some (.int (nI d))] [.int (bI v55_0)] := by
              intro v55_0 ev55_0
              subst ev55_0
              exact g_to (J39 (!(decide ((w (1 + 0)) < (farOf w c d side)))) (by rw [(decide_eq_true h39)] <;> rfl)) ⟨rfl, rfl, rfl, rfl, rfl, rfl, trivial⟩
            refine g_icmp_gt (tgt := 62) hX dX7_fits_55 (by decide) (fun h55 => ?_) (fun h55 => ?_)
            · skip
              refine g_iconst hX dX7_fits_62 kn_i_0 ?_
              refine g_top (v' := bI false) rfl ?_
              exact g_to (J55 false (by rw [(decide_eq_true h55)] <;> rfl)) ⟨rfl, rfl, rfl, rfl, rfl, rfl, trivial⟩
            · skip
              refine g_iconst hX dX7_fits_58 kn_i_1 ?_
              refine g_goto (tgt := 63) hX dX7_fits_59 (by decide) ?_
              refine g_top (v' := bI true) rfl ?_
              exact g_to (J55 true (by rw [(decide_eq_false h55)] <;> rfl)) ⟨rfl, rfl, rfl, rfl, rfl, rfl, trivial⟩
  exact g_fin (loop6 0 (by omega) ) (rfl) rfl ⟨rfl, rfl, rfl, rfl, rfl, rfl, trivial⟩
set_option maxRecDepth 100000 in
set_option maxHeartbeats 4000000 in
theorem ct_X7_usedAhead {l : Launch} {D : va_G} {a0 a1 a7 : Nat} {fs : List Value} {w q : Nat → Int32} {c side : Nat} {p : Nat → Nat} (hf : fs[0]? = some (.ref a1)) (hg : fs[12]? = some (.ref a7)) (hc : c < 8) (hs : side < 2) (hp : ∀ d, d < c → p d < 9) (hq : ∀ d, d < c → q (8 * side + d) = nI (p d)) : Cf l D yX7_usedAhead cX7_usedAhead 5 (some .int) 2 46 [.ref a0, .int (nI c), .int (nI side)] [(a0, .inr (8, fs)), (a1, .inl (D.1 100, 3318, .inl w)), (a7, .inl (D.1 100, 16, .inl q))] (some (.int (nI (usN (knW w) p c)))) [(a0, .inr (8, fs)), (a1, .inl (D.1 100, 3318, .inl w)), (a7, .inl (D.1 100, 16, .inl q))] := by
  refine Ct.ofG (by decide) (Nat.le_of_ble_eq_true rfl) ?_
  intro X hX
  have hX : CX X l D RX7 "usedAhead" cX7_usedAhead 5 (some .int) 2 46 0 0 := hX
  show G X (QF X (some (.int (nI (usN (knW w) p c)))) [(a0, .inr (8, fs)), (a1, .inl (D.1 100, 3318, .inl w)), (a7, .inl (D.1 100, 16, .inl q))]) [(a0, .inr (8, fs)), (a1, .inl (D.1 100, 3318, .inl w)), (a7, .inl (D.1 100, 16, .inl q))] 0 0 0 [some (.ref a0), some (.int (nI c)), some (.int (nI side)), none, none] []
  generalize hQ : QF X (some (.int (nI (usN (knW w) p c)))) [(a0, .inr (8, fs)), (a1, .inl (D.1 100, 3318, .inl w)), (a7, .inl (D.1 100, 16, .inl q))] = Q
  refine g_iconst hX dX7_usedAhead_0 kn_i_0 ?_
  refine g_istore_n (L' := [some (.ref a0), some (.int (nI c)), some (.int (nI side)), some (.int (nI 0)), none]) hX dX7_usedAhead_1 (by decide) rfl ?_
  refine g_iconst hX dX7_usedAhead_2 kn_i_0 ?_
  refine g_istore (L' := [some (.ref a0), some (.int (nI c)), some (.int (nI side)), some (.int (nI 0)), some (.int (nI 0))]) hX dX7_usedAhead_3 (by decide) rfl ?_
  have loop5 : ∀ d : Nat, d ≤ c → G X Q [(a0, .inr (8, fs)), (a1, .inl (D.1 100, 3318, .inl w)), (a7, .inl (D.1 100, 16, .inl q))] 0 0 5 [some (.ref a0), some (.int (nI c)), some (.int (nI side)), some (.int (nI (usN (knW w) p d))), some (.int (nI d))] [] := by
    refine loopN c (fun d hh5 ih5 => ?_)
    have hub : usN (knW w) p d ≤ 9 := usN_b (by omega) (fun j hj => hp j (by omega))
    refine g_iload hX dX7_usedAhead_5 rfl ?_
    refine g_iload_n hX dX7_usedAhead_7 rfl ?_
    refine g_icmpN_ge (tgt := 61) hX dX7_usedAhead_8 (by decide) (by omega) (by omega) (fun h8 => ?_) (fun h8 => ?_)
    · skip
      obtain rfl : d = c := by omega
      refine g_iload_n hX dX7_usedAhead_61 rfl ?_
      subst hQ
      exact g_iret hX dX7_usedAhead_62 (rfl) (rfl) rfl rfl
    · skip
      refine g_aload_n hX dX7_usedAhead_11 rfl ?_
      refine g_iload hX dX7_usedAhead_12 rfl ?_
      refine g_callRi hX dX7_usedAhead_14 cw_X7_69 (ct_X7_isKnown_N  (by first | with_reducible assumption | rfl) (by omega)) 0 8 [0, 1] rfl rfl rfl rfl (by decide) rfl ⟨by decide, by decide⟩ (Nat.le_of_ble_eq_true rfl) (Nat.le_refl _) (Nat.le_refl _) ?_
      have J17 : ∀ (v17_0 : Nat), (v17_0 = (if kn (w 0) d then (if (p d) < (usN (knW w) p d) then usN (knW w) p d else (p d) + 1) else usN (knW w) p d)) → G X Q [(a0, .inr (8, fs)), (a1, .inl (D.1 100, 3318, .inl w)), (a7, .inl (D.1 100, 16, .inl q))] 0 0 54 [some (.ref a0), some (.int (nI c)), some (.int (nI side)), some (.int (nI (usN (knW w) p d))), some (.int (nI d))] [.int (nI v17_0)] := by
        intro v17_0 ev17_0
        subst ev17_0
        refine g_istore_n (L' := [some (.ref a0), some (.int (nI c)), some (.int (nI side)), some (.int (nI (if kn (w 0) d then (if (p d) < (usN (knW w) p d) then usN (knW w) p d else (p d) + 1) else usN (knW w) p d))), some (.int (nI d))]) hX dX7_usedAhead_54 (by decide) rfl ?_
        refine g_iincN (L' := [some (.ref a0), some (.int (nI c)), some (.int (nI side)), some (.int (nI (if kn (w 0) d then (if (p d) < (usN (knW w) p d) then usN (knW w) p d else (p d) + 1) else usN (knW w) p d))), some (.int (nI (d + 1)))]) hX dX7_usedAhead_55 rfl (by decide) rfl ?_
        refine g_goto (tgt := 5) hX dX7_usedAhead_58 (by decide) ?_
        exact g_fin (ih5 (by omega) ) (rfl) rfl ⟨rfl, rfl, rfl, rfl, rfl, trivial⟩
      refine g_ifb_eq (tgt := 53) hX dX7_usedAhead_17 (by decide) (fun h17 => ?_) (fun h17 => ?_)
      · skip
        refine g_iload_n hX dX7_usedAhead_53 rfl ?_
        exact g_to (J17 (usN (knW w) p d) (if_bf h17).symm) ⟨rfl, rfl, rfl, rfl, rfl, trivial⟩
      · skip
        refine g_aload_n hX dX7_usedAhead_20 rfl ?_
        refine g_getf hX dX7_usedAhead_21 fk_X7_32 0 rfl hg ?_
        refine g_bipush hX dX7_usedAhead_24 kn_b_8 ?_
        refine g_iload_n hX dX7_usedAhead_26 rfl ?_
        refine g_imulN hX dX7_usedAhead_27 ?_
        refine g_iload hX dX7_usedAhead_28 rfl ?_
        refine g_iaddN hX dX7_usedAhead_30 ?_
        refine g_iald hX dX7_usedAhead_31 2 rfl (by decide) (by omega) ?_
        refine g_top (v' := nI (p d)) (hq d (by omega)) ?_
        have hpd := hp d (by omega)
        refine g_iload_n hX dX7_usedAhead_32 rfl ?_
        have J33 : ∀ (v33_0 : Nat), (v33_0 = (if (p d) < (usN (knW w) p d) then usN (knW w) p d else (p d) + 1)) → G X Q [(a0, .inr (8, fs)), (a1, .inl (D.1 100, 3318, .inl w)), (a7, .inl (D.1 100, 16, .inl q))] 0 0 54 [some (.ref a0), some (.int (nI c)), some (.int (nI side)), some (.int (nI (usN (knW w) p d))), some (.int (nI d))] [.int (nI v33_0)] := by
          intro v33_0 ev33_0
          subst ev33_0
          exact g_to (J17 (if (p d) < (usN (knW w) p d) then usN (knW w) p d else (p d) + 1) (if_bt h17).symm) ⟨rfl, rfl, rfl, rfl, rfl, trivial⟩
        refine g_icmpN_lt (tgt := 53) hX dX7_usedAhead_33 (by decide) (by omega) (by omega) (fun h33 => ?_) (fun h33 => ?_)
        · skip
          refine g_iload_n hX dX7_usedAhead_53 rfl ?_
          exact g_to (J33 (usN (knW w) p d) (if_pos h33).symm) ⟨rfl, rfl, rfl, rfl, rfl, trivial⟩
        · skip
          refine g_aload_n hX dX7_usedAhead_36 rfl ?_
          refine g_getf hX dX7_usedAhead_37 fk_X7_32 0 rfl hg ?_
          refine g_bipush hX dX7_usedAhead_40 kn_b_8 ?_
          refine g_iload_n hX dX7_usedAhead_42 rfl ?_
          refine g_imulN hX dX7_usedAhead_43 ?_
          refine g_iload hX dX7_usedAhead_44 rfl ?_
          refine g_iaddN hX dX7_usedAhead_46 ?_
          refine g_iald hX dX7_usedAhead_47 2 rfl (by decide) (by omega) ?_
          refine g_top (v' := nI (p d)) (hq d (by omega)) ?_
          refine g_iconst hX dX7_usedAhead_48 kn_i_1 ?_
          refine g_iaddN hX dX7_usedAhead_49 ?_
          refine g_goto (tgt := 54) hX dX7_usedAhead_50 (by decide) ?_
          exact g_to (J33 ((p d) + 1) (if_neg h33).symm) ⟨rfl, rfl, rfl, rfl, rfl, trivial⟩
  exact g_fin (loop5 0 (by omega) ) (rfl) rfl ⟨rfl, rfl, rfl, rfl, rfl, trivial⟩
set_option maxRecDepth 100000 in
set_option maxHeartbeats 4000000 in
theorem ct_X7_nextNumber {l : Launch} {D : va_G} {a0 a1 a7 : Nat} {fs : List Value} {w q : Nat → Int32} {c side f most : Nat} {p : Nat → Nat} (hf : fs[0]? = some (.ref a1)) (hg : fs[12]? = some (.ref a7)) (hc : c < 8) (hs : side < 2) (hp : ∀ d, d < c → p d < 8) (hfr : f ≤ 9) (hm : most ≤ 9) (hq : ∀ d, d < c → q (8 * side + d) = nI (p d)) : Cf l D yX7_nextNumber cX7_nextNumber 7 (some .int) 3 76 [.ref a0, .int (nI c), .int (nI side), .int (nI f), .int (nI most)] [(a0, .inr (8, fs)), (a1, .inl (D.1 100, 3318, .inl w)), (a7, .inl (D.1 100, 16, .inl q))] (some (.int (oI (fnd (okN (knW w) (cmpW w side c) p c most) (9 - f) f)))) [(a0, .inr (8, fs)), (a1, .inl (D.1 100, 3318, .inl w)), (a7, .inl (D.1 100, 16, .inl q))] := by
  refine Ct.ofG (by decide) (Nat.le_of_ble_eq_true rfl) ?_
  intro X hX
  have hX : CX X l D RX7 "nextNumber" cX7_nextNumber 7 (some .int) 3 76 0 0 := hX
  show G X (QF X (some (.int (oI (fnd (okN (knW w) (cmpW w side c) p c most) (9 - f) f)))) [(a0, .inr (8, fs)), (a1, .inl (D.1 100, 3318, .inl w)), (a7, .inl (D.1 100, 16, .inl q))]) [(a0, .inr (8, fs)), (a1, .inl (D.1 100, 3318, .inl w)), (a7, .inl (D.1 100, 16, .inl q))] 0 0 0 [some (.ref a0), some (.int (nI c)), some (.int (nI side)), some (.int (nI f)), some (.int (nI most)), none, none] []
  generalize hQ : QF X (some (.int (oI (fnd (okN (knW w) (cmpW w side c) p c most) (9 - f) f)))) [(a0, .inr (8, fs)), (a1, .inl (D.1 100, 3318, .inl w)), (a7, .inl (D.1 100, 16, .inl q))] = Q
  refine g_aload_n hX dX7_nextNumber_0 rfl ?_
  refine g_iload_n hX dX7_nextNumber_1 rfl ?_
  refine g_iload_n hX dX7_nextNumber_2 rfl ?_
  refine g_callRi hX dX7_nextNumber_3 cw_X7_76 (ct_X7_usedAhead  (by first | with_reducible assumption | rfl) (by first | with_reducible assumption | rfl) (by omega) (by omega) (fun d hd => Nat.lt_succ_of_lt (hp d hd)) (by first | with_reducible assumption | assumption)) 0 8 [0, 1, 2] rfl rfl rfl rfl (by decide) rfl ⟨by decide, by decide⟩ (Nat.le_of_ble_eq_true rfl) (Nat.le_refl _) (Nat.le_refl _) ?_
  refine g_istore (L' := [some (.ref a0), some (.int (nI c)), some (.int (nI side)), some (.int (nI f)), some (.int (nI most)), some (.int (nI (usN (knW w) p c))), none]) hX dX7_nextNumber_6 (by decide) rfl ?_
  refine g_iload_n hX dX7_nextNumber_8 rfl ?_
  refine g_istore (L' := [some (.ref a0), some (.int (nI c)), some (.int (nI side)), some (.int (nI f)), some (.int (nI most)), some (.int (nI (usN (knW w) p c))), some (.int (nI f))]) hX dX7_nextNumber_9 (by decide) rfl ?_
  have loop11 : ∀ k : Nat, k ≤ 9 → (fnd (okN (knW w) (cmpW w side c) p c most) (9 - f) f = fnd (okN (knW w) (cmpW w side c) p c most) (9 - k) k) → G X Q [(a0, .inr (8, fs)), (a1, .inl (D.1 100, 3318, .inl w)), (a7, .inl (D.1 100, 16, .inl q))] 0 0 11 [some (.ref a0), some (.int (nI c)), some (.int (nI side)), some (.int (nI f)), some (.int (nI most)), some (.int (nI (usN (knW w) p c))), some (.int (nI k))] [] := by
    refine loopN 9 (fun k hh11 ih11 => ?_)
    intro hr
    have hub : usN (knW w) p c ≤ 8 := usN_b (by omega) hp
    refine g_iload hX dX7_nextNumber_11 rfl ?_
    refine g_iload hX dX7_nextNumber_13 rfl ?_
    refine g_icmpN_gt (tgt := 45) hX dX7_nextNumber_15 (by decide) (by omega) (by omega) (fun h15 => ?_) (fun h15 => ?_)
    · skip
      refine g_iconst hX dX7_nextNumber_45 kn_i_m1 ?_
      subst hQ
      exact g_iret hX dX7_nextNumber_46 (iR (by rw [hr, fnd_none]; rfl; intro j hj; unfold okN; rw [decide_eq_false (show ¬ j ≤ usN (knW w) p c by omega)]; rfl)) (rfl) rfl rfl
    · skip
      refine g_iload hX dX7_nextNumber_18 rfl ?_
      refine g_iload hX dX7_nextNumber_20 rfl ?_
      refine g_icmpN_ge (tgt := 45) hX dX7_nextNumber_22 (by decide) (by omega) (by omega) (fun h22 => ?_) (fun h22 => ?_)
      · skip
        refine g_iconst hX dX7_nextNumber_45 kn_i_m1 ?_
        subst hQ
        exact g_iret hX dX7_nextNumber_46 (iR (by rw [hr, fnd_none]; rfl; intro j hj; unfold okN; rw [decide_eq_false (show ¬ j < most by omega)]; simp)) (rfl) rfl rfl
      · skip
        refine g_aload_n hX dX7_nextNumber_25 rfl ?_
        refine g_iload_n hX dX7_nextNumber_26 rfl ?_
        refine g_iload_n hX dX7_nextNumber_27 rfl ?_
        refine g_iload hX dX7_nextNumber_28 rfl ?_
        refine g_callRi hX dX7_nextNumber_30 cw_X7_80 (ct_X7_fits  (by first | with_reducible assumption | rfl) (by first | with_reducible assumption | rfl) (by omega) (by omega) (by omega) (fun d hd => Nat.lt_of_lt_of_le (hp d hd) (by omega)) (by first | with_reducible assumption | assumption)) 0 8 [0, 1, 2] rfl rfl rfl rfl (by decide) rfl ⟨by decide, by decide⟩ (Nat.le_of_ble_eq_true rfl) (Nat.le_refl _) (Nat.le_refl _) ?_
        refine g_ifb_eq (tgt := 39) hX dX7_nextNumber_33 (by decide) (fun h33 => ?_) (fun h33 => ?_)
        · skip
          refine g_iincN (L' := [some (.ref a0), some (.int (nI c)), some (.int (nI side)), some (.int (nI f)), some (.int (nI most)), some (.int (nI (usN (knW w) p c))), some (.int (nI (k + 1)))]) hX dX7_nextNumber_39 rfl (by decide) rfl ?_
          refine g_goto (tgt := 11) hX dX7_nextNumber_42 (by decide) ?_
          exact g_fin (ih11 (by omega) (by rw [hr, show 9 - k = (9 - (k + 1)) + 1 by omega]; exact if_neg (by unfold okN; rw [h33]; simp))) (rfl) rfl ⟨rfl, rfl, rfl, rfl, rfl, rfl, rfl, trivial⟩
        · skip
          refine g_iload hX dX7_nextNumber_36 rfl ?_
          subst hQ
          exact g_iret hX dX7_nextNumber_38 (iR (by rw [hr, show 9 - k = (9 - (k + 1)) + 1 by omega]; exact congrArg oI (if_pos (by unfold okN; rw [h33, decide_eq_true (show k ≤ usN (knW w) p c by omega), decide_eq_true (show k < most by omega)]; rfl)))) (rfl) rfl rfl
  exact g_fin (loop11 f (by omega) rfl) (rfl) rfl ⟨rfl, rfl, rfl, rfl, rfl, rfl, rfl, trivial⟩
