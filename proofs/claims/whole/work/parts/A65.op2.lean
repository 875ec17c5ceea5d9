set_option maxRecDepth 100000 in
set_option maxHeartbeats 4000000 in
theorem lop_letter {X : CT} {l : Launch} {D : va_G} {nm : String} {rt : Option FieldType} {rf rl mc ms : Nat} {Q : State → Prop} {b N i ce sl : Nat} {xs : Nat → Int32} {q ad im : Nat → Nat} {w : Nat → Int32} {u fi pc : Nat} {rh : Nat → Nat → Int32} {vv : Nat → Int32} {s : Nat} {sgI : Nat → Int32} {sgF : Nat → Nat → Int32} {sz : Nat} {t : Nat → Nat} {nx cl fn fa : Int32} {v : Nat → Int32} {ev : Int32} {wr : Nat} {bo bt bs : Nat → Int32} {ir : Nat → Nat → Int32} {iv iss ik wl : Nat → Int32} {kp : Int32} {qn cn : Nat → Int32} {pa fl : Nat} {lo : Nat → Int32} {ln : Nat} {mwl : Nat → Int32} (hX : CX X l D RL nm cL_law 4 rt rf rl mc ms) (hs : SX X b N xs) (hN : N < 2147483648) (hi : i + 7 ≤ N) (hrm : 40 ≤ rf ∧ 2000 ≤ rl) (hcs : ce + 2 ≤ mc ∧ sl + 20 ≤ ms) (hu : u < 1000000) (hI : LInv w u fi pc rh s sgI sgF sz t wr kp ir iss ik) (kk : Nxt X Q D q ad im b i u ce sl) : G X Q (lawC D q ad im w u fi pc rh vv s sgI sgF sz t nx cl fn fa v ev wr bo bt bs ir iv iss ik wl kp qn cn pa fl lo ln mwl) ce sl 525 [some (.ref b), some (.ref (q 0)), some (.ref (q 40)), some (.int (nI i))] [] := by
  obtain ⟨hc, him, hsg, hsz, ht, hwr, hss⟩ := hI
  show G X Q (lawS D q ad im w u fi pc rh vv (nI s) sgI sgF sz t nx cl fn fa v ev wr bo bt bs ir iv iss ik wl w pc kp (nI s) iss t sz fa bo bt bs wr qn cn pa fl lo ln mwl).flatten ce sl 525 [some (.ref b), some (.ref (q 0)), some (.ref (q 40)), some (.int (nI i))] []
  rw [show lawS D q ad im w u fi pc rh vv (nI s) sgI sgF sz t nx cl fn fa v ev wr bo bt bs ir iv iss ik wl w pc kp (nI s) iss t sz fa bo bt bs wr qn cn pa fl lo ln mwl = lawS D q ad im (memTo w 0) u fi pc rh vv (nI s) sgI sgF sz t nx cl fn fa v ev wr bo bt bs ir iv iss ik wl w pc kp (nI s) iss t sz fa bo bt bs wr qn cn pa fl lo ln mwl from lawS_r D (agr_mem w)]
  have hrow : rowOK (memTo w 0) := hc.mem
  have hsr := sgP_c (agr_mem w) hsg
  obtain ⟨o, ho2, ho⟩ := hrow.2.2.2.2.1
  refine g_aload_n hX dL_law_525 rfl ?_
  refine g_aload_n hX dL_law_526 rfl ?_
  refine g_iload_n hX dL_law_527 rfl ?_
  refine g_iconst hX dL_law_528 kn_i_1 ?_
  refine g_iaddN hX dL_law_529 ?_
  refine g_sld hX hs dL_law_530 hN (by omega) ?_
  refine g_aload_n hX dL_law_531 rfl ?_
  refine g_iload_n hX dL_law_532 rfl ?_
  refine g_iconst hX dL_law_533 kn_i_2 ?_
  refine g_iaddN hX dL_law_534 ?_
  refine g_sld hX hs dL_law_535 hN (by omega) ?_
  refine g_aload_n hX dL_law_536 rfl ?_
  refine g_iload_n hX dL_law_537 rfl ?_
  refine g_iconst hX dL_law_538 kn_i_3 ?_
  refine g_iaddN hX dL_law_539 ?_
  refine g_sld hX hs dL_law_540 hN (by omega) ?_
  refine g_aload_n hX dL_law_541 rfl ?_
  refine g_iload_n hX dL_law_542 rfl ?_
  refine g_iconst hX dL_law_543 kn_i_4 ?_
  refine g_iaddN hX dL_law_544 ?_
  refine g_sld hX hs dL_law_545 hN (by omega) ?_
  refine g_callQ (segs := lawS D q ad im (memTo w 0) u fi pc rh vv (nI s) sgI sgF sz t nx cl fn fa v ev wr bo bt bs ir iv iss ik wl w pc kp (nI s) iss t sz fa bo bt bs wr qn cn pa fl lo ln mwl) (fun ugh => match ugh with | (c_V, c_r2, c_u2, c_f2, c_c2, c_rh2, c_vv2) => [gsP0 D q c_f2 c_c2, gsPR D q ad c_rh2 c_vv2, gsN0 D q c_r2 c_u2, gsNE D q c_r2, gsNB D q c_r2, gsNT D q c_r2, gsNG D q c_r2, gsT D q (nI s)]) [0, 1, 2, 3, 4, 5, 6, 7] [8, 9, 10, 11, 12, 13, 14, 15, 16, 17, 18, 19, 20, 21, 22, 23, 24] hX dL_law_546 cw_L_62 (ct_X6_letter (l := l) (D := D) (z0 := (q 0)) (s0 := (q 1)) (s1 := (q 2)) (s2 := (q 3)) (s3 := (q 4)) (s4 := (q 5)) (v0 := (q 6)) (d0 := (q 16)) (y0 := (q 23)) (y1 := (q 24)) (fi := fi) (pc := pc) (b0 := (q 25)) (i0 := (q 29)) (i1 := (q 30)) (i2 := (q 31)) (i3 := (q 32)) (u := u) (r := (memTo w 0)) (sd := (nI s)) (ad := ad) (rh := rh) (vv := vv) (c := (xs (i + 1))) (le := (xs (i + 2))) (ri := (xs (i + 3))) (d := (xs (i + 4))) hrow hc.2.2.2 hc.2.2.1) 87 7 rfl (show ([0, 1, 2, 3, 4, 5, 6, 7] ++ [8, 9, 10, 11, 12, 13, 14, 15, 16, 17, 18, 19, 20, 21, 22, 23, 24] : List Nat).Perm (List.range 25) by decide) rfl rfl rfl rfl (fun ⟨_, _, _, _, _, _, _⟩ => rfl) (fun ⟨_, _, _, _, _, _, _⟩ => rfl) (fun ⟨_, _, _, _, _, _, _⟩ => rfl) ⟨by omega, by omega⟩ (Nat.le_of_ble_eq_true rfl) ⟨by omega, by omega⟩ (fun vgh ugh hp => ?_)
  obtain ⟨c_V, c_r2, c_u2, c_f2, c_c2, c_rh2, c_vv2⟩ := ugh
  obtain ⟨rfl, c_hv⟩ := hp
  show G X Q (lawS D q ad im c_r2 c_u2 c_f2 c_c2 c_rh2 c_vv2 (nI s) sgI sgF sz t nx cl fn fa v ev wr bo bt bs ir iv iss ik wl w pc kp (nI s) iss t sz fa bo bt bs wr qn cn pa fl lo ln mwl).flatten (ce + 0) (sl + 0) 549 [some (.ref b), some (.ref (q 0)), some (.ref (q 40)), some (.int (nI i))] [.int c_V]
  refine g_aload_n hX dL_law_549 rfl ?_
  refine g_aload_n hX dL_law_550 rfl ?_
  refine g_iload_n hX dL_law_551 rfl ?_
  refine g_iconst hX dL_law_552 kn_i_1 ?_
  refine g_iaddN hX dL_law_553 ?_
  refine g_sld hX hs dL_law_554 hN (by omega) ?_
  refine g_aload_n hX dL_law_555 rfl ?_
  refine g_iload_n hX dL_law_556 rfl ?_
  refine g_iconst hX dL_law_557 kn_i_2 ?_
  refine g_iaddN hX dL_law_558 ?_
  refine g_sld hX hs dL_law_559 hN (by omega) ?_
  refine g_aload_n hX dL_law_560 rfl ?_
  refine g_iload_n hX dL_law_561 rfl ?_
  refine g_iconst hX dL_law_562 kn_i_3 ?_
  refine g_iaddN hX dL_law_563 ?_
  refine g_sld hX hs dL_law_564 hN (by omega) ?_
  refine g_aload_n hX dL_law_565 rfl ?_
  refine g_iload_n hX dL_law_566 rfl ?_
  refine g_iconst hX dL_law_567 kn_i_4 ?_
  refine g_iaddN hX dL_law_568 ?_
  refine g_sld hX hs dL_law_569 hN (by omega) ?_
  refine g_callQ (segs := lawS D q ad im c_r2 c_u2 c_f2 c_c2 c_rh2 c_vv2 (nI s) sgI sgF sz t nx cl fn fa v ev wr bo bt bs ir iv iss ik wl w pc kp (nI s) iss t sz fa bo bt bs wr qn cn pa fl lo ln mwl) (fun ugh => match ugh with | (m_V, m_W, m_U) => [gsM0 D q m_U kp (nI s) sz fa wr pa fl ln, gsMw D q m_W]) [16, 17] [0, 1, 2, 3, 4, 5, 6, 7, 8, 9, 10, 11, 12, 13, 14, 15, 18, 19, 20, 21, 22, 23, 24] hX dL_law_570 cw_L_66 (ct_X7_letter (l := l) (D := D) (a0 := (q 40)) (a1 := (q 41)) (a2 := (q 42)) (a3 := (q 43)) (a4 := (q 44)) (a5 := (q 45)) (a6 := (q 46)) (a7 := (q 47)) (a8 := (q 48)) (a9 := (q 49)) (a10 := (q 50)) (uk := pc) (sz := sz) (wr := wr) (pa := pa) (fl := fl) (ln := ln) (kp := kp) (sd := (nI s)) (fa := fa) (w := w) (c := (xs (i + 1))) (le := (xs (i + 2))) (ri := (xs (i + 3))) (d := (xs (i + 4))) hc.2.2.2) 0 8 rfl (show ([16, 17] ++ [0, 1, 2, 3, 4, 5, 6, 7, 8, 9, 10, 11, 12, 13, 14, 15, 18, 19, 20, 21, 22, 23, 24] : List Nat).Perm (List.range 25) by decide) rfl rfl rfl rfl (fun ⟨_, _, _⟩ => rfl) (fun ⟨_, _, _⟩ => rfl) (fun ⟨_, _, _⟩ => rfl) ⟨by omega, by omega⟩ (Nat.le_of_ble_eq_true rfl) ⟨by omega, by omega⟩ (fun vgh ugh hp => ?_)
  obtain ⟨m_V, m_W, m_U⟩ := ugh
  obtain ⟨rfl, m_hv⟩ := hp
  show G X Q (lawS D q ad im c_r2 c_u2 c_f2 c_c2 c_rh2 c_vv2 (nI s) sgI sgF sz t nx cl fn fa v ev wr bo bt bs ir iv iss ik wl m_W m_U kp (nI s) iss t sz fa bo bt bs wr qn cn pa fl lo ln mwl).flatten (ce + 0 + 0) (sl + 0 + 0) 573 [some (.ref b), some (.ref (q 0)), some (.ref (q 40)), some (.int (nI i))] [.int m_V, .int c_V]
  obtain ⟨hV, hU, hag, hco, hwi, hve⟩ := op_letter hc c_hv m_hv
  subst hV hU
  refine g_icmp_eq (tgt := 881) hX dL_law_573 (by decide) (fun _ => ?_) (fun h => absurd rfl h)
  rw [show lawS D q ad im c_r2 c_u2 c_f2 m_U c_rh2 c_vv2 (nI s) sgI sgF sz t nx cl fn fa v ev wr bo bt bs ir iv iss ik wl m_W m_U kp (nI s) iss t sz fa bo bt bs wr qn cn pa fl lo ln mwl = lawS D q ad im m_W c_u2 c_f2 m_U c_rh2 c_vv2 (nI s) sgI sgF sz t nx cl fn fa v ev wr bo bt bs ir iv iss ik wl m_W m_U kp (nI s) iss t sz fa bo bt bs wr qn cn pa fl lo ln mwl from lawS_r D hag]
  exact kk m_W c_u2 c_f2 m_U c_rh2 c_vv2 s sgI sgF sz t nx cl fn fa v ev wr bo bt bs ir iv iss ik wl kp qn cn pa fl lo ln mwl _ _ (by rcases hve with h | h <;> omega) (by omega) (by omega) ⟨hco, him.next hwi, sg_step hsg hve hu, hsz, ht, hwr, hss⟩
set_option maxRecDepth 100000 in
set_option maxHeartbeats 4000000 in
theorem lop_forget {X : CT} {l : Launch} {D : va_G} {nm : String} {rt : Option FieldType} {rf rl mc ms : Nat} {Q : State → Prop} {b N i ce sl : Nat} {xs : Nat → Int32} {q ad im : Nat → Nat} {w : Nat → Int32} {u fi pc : Nat} {rh : Nat → Nat → Int32} {vv : Nat → Int32} {s : Nat} {sgI : Nat → Int32} {sgF : Nat → Nat → Int32} {sz : Nat} {t : Nat → Nat} {nx cl fn fa : Int32} {v : Nat → Int32} {ev : Int32} {wr : Nat} {bo bt bs : Nat → Int32} {ir : Nat → Nat → Int32} {iv iss ik wl : Nat → Int32} {kp : Int32} {qn cn : Nat → Int32} {pa fl : Nat} {lo : Nat → Int32} {ln : Nat} {mwl : Nat → Int32} (hX : CX X l D RL nm cL_law 4 rt rf rl mc ms) (hs : SX X b N xs) (hN : N < 2147483648) (hi : i + 7 ≤ N) (hrm : 40 ≤ rf ∧ 2000 ≤ rl) (hcs : ce + 2 ≤ mc ∧ sl + 20 ≤ ms) (hu : u < 1000000) (hI : LInv w u fi pc rh s sgI sgF sz t wr kp ir iss ik) (kk : Nxt X Q D q ad im b i u ce sl) : G X Q (lawC D q ad im w u fi pc rh vv s sgI sgF sz t nx cl fn fa v ev wr bo bt bs ir iv iss ik wl kp qn cn pa fl lo ln mwl) ce sl 578 [some (.ref b), some (.ref (q 0)), some (.ref (q 40)), some (.int (nI i))] [] := by
  obtain ⟨hc, him, hsg, hsz, ht, hwr, hss⟩ := hI
  show G X Q (lawS D q ad im w u fi pc rh vv (nI s) sgI sgF sz t nx cl fn fa v ev wr bo bt bs ir iv iss ik wl w pc kp (nI s) iss t sz fa bo bt bs wr qn cn pa fl lo ln mwl).flatten ce sl 578 [some (.ref b), some (.ref (q 0)), some (.ref (q 40)), some (.int (nI i))] []
  rw [show lawS D q ad im w u fi pc rh vv (nI s) sgI sgF sz t nx cl fn fa v ev wr bo bt bs ir iv iss ik wl w pc kp (nI s) iss t sz fa bo bt bs wr qn cn pa fl lo ln mwl = lawS D q ad im (memTo w 0) u fi pc rh vv (nI s) sgI sgF sz t nx cl fn fa v ev wr bo bt bs ir iv iss ik wl w pc kp (nI s) iss t sz fa bo bt bs wr qn cn pa fl lo ln mwl from lawS_r D (agr_mem w)]
  have hrow : rowOK (memTo w 0) := hc.mem
  have hsr := sgP_c (agr_mem w) hsg
  obtain ⟨o, ho2, ho⟩ := hrow.2.2.2.2.1
  refine g_aload_n hX dL_law_578 rfl ?_
  refine g_aload_n hX dL_law_579 rfl ?_
  refine g_iload_n hX dL_law_580 rfl ?_
  refine g_iconst hX dL_law_581 kn_i_1 ?_
  refine g_iaddN hX dL_law_582 ?_
  refine g_sld hX hs dL_law_583 hN (by omega) ?_
  refine g_callQ (segs := lawS D q ad im (memTo w 0) u fi pc rh vv (nI s) sgI sgF sz t nx cl fn fa v ev wr bo bt bs ir iv iss ik wl w pc kp (nI s) iss t sz fa bo bt bs wr qn cn pa fl lo ln mwl) (fun ugh => match ugh with | (c_V, c_r2, c_u2, c_f2, c_c2, c_rh2, c_vv2) => [gsP0 D q c_f2 c_c2, gsPR D q ad c_rh2 c_vv2, gsN0 D q c_r2 c_u2, gsNE D q c_r2, gsNB D q c_r2, gsNT D q c_r2, gsNG D q c_r2, gsT D q (nI s)]) [0, 1, 2, 3, 4, 5, 6, 7] [8, 9, 10, 11, 12, 13, 14, 15, 16, 17, 18, 19, 20, 21, 22, 23, 24] hX dL_law_584 cw_L_67 (ct_X6_forget (l := l) (D := D) (z0 := (q 0)) (s0 := (q 1)) (s1 := (q 2)) (s2 := (q 3)) (s3 := (q 4)) (s4 := (q 5)) (v0 := (q 6)) (d0 := (q 16)) (y0 := (q 23)) (y1 := (q 24)) (fi := fi) (pc := pc) (b0 := (q 25)) (i0 := (q 29)) (i1 := (q 30)) (i2 := (q 31)) (i3 := (q 32)) (u := u) (r := (memTo w 0)) (sd := (nI s)) (ad := ad) (rh := rh) (vv := vv) (c := (xs (i + 1))) hrow hc.2.2.2 hc.2.2.1) 87 7 rfl (show ([0, 1, 2, 3, 4, 5, 6, 7] ++ [8, 9, 10, 11, 12, 13, 14, 15, 16, 17, 18, 19, 20, 21, 22, 23, 24] : List Nat).Perm (List.range 25) by decide) rfl rfl rfl rfl (fun ⟨_, _, _, _, _, _, _⟩ => rfl) (fun ⟨_, _, _, _, _, _, _⟩ => rfl) (fun ⟨_, _, _, _, _, _, _⟩ => rfl) ⟨by omega, by omega⟩ (Nat.le_of_ble_eq_true rfl) ⟨by omega, by omega⟩ (fun vgh ugh hp => ?_)
  obtain ⟨c_V, c_r2, c_u2, c_f2, c_c2, c_rh2, c_vv2⟩ := ugh
  obtain ⟨rfl, c_hv⟩ := hp
  show G X Q (lawS D q ad im c_r2 c_u2 c_f2 c_c2 c_rh2 c_vv2 (nI s) sgI sgF sz t nx cl fn fa v ev wr bo bt bs ir iv iss ik wl w pc kp (nI s) iss t sz fa bo bt bs wr qn cn pa fl lo ln mwl).flatten (ce + 0) (sl + 0) 587 [some (.ref b), some (.ref (q 0)), some (.ref (q 40)), some (.int (nI i))] [.int c_V]
  refine g_aload_n hX dL_law_587 rfl ?_
  refine g_aload_n hX dL_law_588 rfl ?_
  refine g_iload_n hX dL_law_589 rfl ?_
  refine g_iconst hX dL_law_590 kn_i_1 ?_
  refine g_iaddN hX dL_law_591 ?_
  refine g_sld hX hs dL_law_592 hN (by omega) ?_
  refine g_callQ (segs := lawS D q ad im c_r2 c_u2 c_f2 c_c2 c_rh2 c_vv2 (nI s) sgI sgF sz t nx cl fn fa v ev wr bo bt bs ir iv iss ik wl w pc kp (nI s) iss t sz fa bo bt bs wr qn cn pa fl lo ln mwl) (fun ugh => match ugh with | (m_V, m_W, m_U) => [gsM0 D q m_U kp (nI s) sz fa wr pa fl ln, gsMw D q m_W]) [16, 17] [0, 1, 2, 3, 4, 5, 6, 7, 8, 9, 10, 11, 12, 13, 14, 15, 18, 19, 20, 21, 22, 23, 24] hX dL_law_593 cw_L_70 (ct_X7_forget (l := l) (D := D) (a0 := (q 40)) (a1 := (q 41)) (a2 := (q 42)) (a3 := (q 43)) (a4 := (q 44)) (a5 := (q 45)) (a6 := (q 46)) (a7 := (q 47)) (a8 := (q 48)) (a9 := (q 49)) (a10 := (q 50)) (uk := pc) (sz := sz) (wr := wr) (pa := pa) (fl := fl) (ln := ln) (kp := kp) (sd := (nI s)) (fa := fa) (w := w) (c := (xs (i + 1))) hc.2.2.2) 0 8 rfl (show ([16, 17] ++ [0, 1, 2, 3, 4, 5, 6, 7, 8, 9, 10, 11, 12, 13, 14, 15, 18, 19, 20, 21, 22, 23, 24] : List Nat).Perm (List.range 25) by decide) rfl rfl rfl rfl (fun ⟨_, _, _⟩ => rfl) (fun ⟨_, _, _⟩ => rfl) (fun ⟨_, _, _⟩ => rfl) ⟨by omega, by omega⟩ (Nat.le_of_ble_eq_true rfl) ⟨by omega, by omega⟩ (fun vgh ugh hp => ?_)
  obtain ⟨m_V, m_W, m_U⟩ := ugh
  obtain ⟨rfl, m_hv⟩ := hp
  show G X Q (lawS D q ad im c_r2 c_u2 c_f2 c_c2 c_rh2 c_vv2 (nI s) sgI sgF sz t nx cl fn fa v ev wr bo bt bs ir iv iss ik wl m_W m_U kp (nI s) iss t sz fa bo bt bs wr qn cn pa fl lo ln mwl).flatten (ce + 0 + 0) (sl + 0 + 0) 596 [some (.ref b), some (.ref (q 0)), some (.ref (q 40)), some (.int (nI i))] [.int m_V, .int c_V]
  obtain ⟨hV, hU, hag, hco, hwi, hve⟩ := op_forget hc c_hv m_hv
  subst hV hU
  refine g_icmp_eq (tgt := 881) hX dL_law_596 (by decide) (fun _ => ?_) (fun h => absurd rfl h)
  rw [show lawS D q ad im c_r2 c_u2 c_f2 m_U c_rh2 c_vv2 (nI s) sgI sgF sz t nx cl fn fa v ev wr bo bt bs ir iv iss ik wl m_W m_U kp (nI s) iss t sz fa bo bt bs wr qn cn pa fl lo ln mwl = lawS D q ad im m_W c_u2 c_f2 m_U c_rh2 c_vv2 (nI s) sgI sgF sz t nx cl fn fa v ev wr bo bt bs ir iv iss ik wl m_W m_U kp (nI s) iss t sz fa bo bt bs wr qn cn pa fl lo ln mwl from lawS_r D hag]
  exact kk m_W c_u2 c_f2 m_U c_rh2 c_vv2 s sgI sgF sz t nx cl fn fa v ev wr bo bt bs ir iv iss ik wl kp qn cn pa fl lo ln mwl _ _ (by rcases hve with h | h <;> omega) (by omega) (by omega) ⟨hco, him.next hwi, sg_step hsg hve hu, hsz, ht, hwr, hss⟩
set_option maxRecDepth 100000 in
set_option maxHeartbeats 4000000 in
theorem lop_judge {X : CT} {l : Launch} {D : va_G} {nm : String} {rt : Option FieldType} {rf rl mc ms : Nat} {Q : State → Prop} {b N i ce sl : Nat} {xs : Nat → Int32} {q ad im : Nat → Nat} {w : Nat → Int32} {u fi pc : Nat} {rh : Nat → Nat → Int32} {vv : Nat → Int32} {s : Nat} {sgI : Nat → Int32} {sgF : Nat → Nat → Int32} {sz : Nat} {t : Nat → Nat} {nx cl fn fa : Int32} {v : Nat → Int32} {ev : Int32} {wr : Nat} {bo bt bs : Nat → Int32} {ir : Nat → Nat → Int32} {iv iss ik wl : Nat → Int32} {kp : Int32} {qn cn : Nat → Int32} {pa fl : Nat} {lo : Nat → Int32} {ln : Nat} {mwl : Nat → Int32} (hX : CX X l D RL nm cL_law 4 rt rf rl mc ms) (hs : SX X b N xs) (hN : N < 2147483648) (hi : i + 7 ≤ N) (hrm : 40 ≤ rf ∧ 2000 ≤ rl) (hcs : ce + 2 ≤ mc ∧ sl + 20 ≤ ms) (hu : u < 1000000) (hI : LInv w u fi pc rh s sgI sgF sz t wr kp ir iss ik) (kk : Nxt X Q D q ad im b i u ce sl) : G X Q (lawC D q ad im w u fi pc rh vv s sgI sgF sz t nx cl fn fa v ev wr bo bt bs ir iv iss ik wl kp qn cn pa fl lo ln mwl) ce sl 601 [some (.ref b), some (.ref (q 0)), some (.ref (q 40)), some (.int (nI i))] [] := by
  obtain ⟨hc, him, hsg, hsz, ht, hwr, hss⟩ := hI
  show G X Q (lawS D q ad im w u fi pc rh vv (nI s) sgI sgF sz t nx cl fn fa v ev wr bo bt bs ir iv iss ik wl w pc kp (nI s) iss t sz fa bo bt bs wr qn cn pa fl lo ln mwl).flatten ce sl 601 [some (.ref b), some (.ref (q 0)), some (.ref (q 40)), some (.int (nI i))] []
  rw [show lawS D q ad im w u fi pc rh vv (nI s) sgI sgF sz t nx cl fn fa v ev wr bo bt bs ir iv iss ik wl w pc kp (nI s) iss t sz fa bo bt bs wr qn cn pa fl lo ln mwl = lawS D q ad im (memTo w 0) u fi pc rh vv (nI s) sgI sgF sz t nx cl fn fa v ev wr bo bt bs ir iv iss ik wl w pc kp (nI s) iss t sz fa bo bt bs wr qn cn pa fl lo ln mwl from lawS_r D (agr_mem w)]
  have hrow : rowOK (memTo w 0) := hc.mem
  have hsr := sgP_c (agr_mem w) hsg
  obtain ⟨o, ho2, ho⟩ := hrow.2.2.2.2.1
  refine g_aload_n hX dL_law_601 rfl ?_
  refine g_aload_n hX dL_law_602 rfl ?_
  refine g_iload_n hX dL_law_603 rfl ?_
  refine g_iconst hX dL_law_604 kn_i_1 ?_
  refine g_iaddN hX dL_law_605 ?_
  refine g_sld hX hs dL_law_606 hN (by omega) ?_
  refine g_aload_n hX dL_law_607 rfl ?_
  refine g_iload_n hX dL_law_608 rfl ?_
  refine g_iconst hX dL_law_609 kn_i_2 ?_
  refine g_iaddN hX dL_law_610 ?_
  refine g_sld hX hs dL_law_611 hN (by omega) ?_
  refine g_aload_n hX dL_law_612 rfl ?_
  refine g_iload_n hX dL_law_613 rfl ?_
  refine g_iconst hX dL_law_614 kn_i_3 ?_
  refine g_iaddN hX dL_law_615 ?_
  refine g_sld hX hs dL_law_616 hN (by omega) ?_
  refine g_callQ (segs := lawS D q ad im (memTo w 0) u fi pc rh vv (nI s) sgI sgF sz t nx cl fn fa v ev wr bo bt bs ir iv iss ik wl w pc kp (nI s) iss t sz fa bo bt bs wr qn cn pa fl lo ln mwl) (fun ugh => match ugh with | (c_V, c_r2, c_u2, c_f2, c_c2, c_rh2, c_vv2, c_sv2, c_cr2, c_cf2, c_pr2, c_jd2, c_kp2, c_ks2, c_kl2, c_ctA2, c_ctB2, c_cA2, c_lA2, c_mA2, c_cB2, c_lB2, c_mB2, c_ta2) => [gsP0 D q c_f2 c_c2, gsPR D q ad c_rh2 c_vv2, gsN0 D q c_r2 c_u2, gsNE D q c_r2, gsNB D q c_r2, gsNT D q c_r2, gsNG D q c_r2, gsT D q (nI s), gsSG D q (fun (k : Nat) => ([c_sv2, c_cr2, c_cf2, c_pr2, c_jd2, c_kp2, c_ks2, c_kl2, c_ctA2, c_ctB2] : List Int32).getD k 0) (fun (k : Nat) => ([c_cA2, c_lA2, c_mA2, c_cB2, c_lB2, c_mB2, c_ta2] : List (Nat → Int32)).getD k (fun _ => 0))]) [0, 1, 2, 3, 4, 5, 6, 7, 8] [9, 10, 11, 12, 13, 14, 15, 16, 17, 18, 19, 20, 21, 22, 23, 24] hX dL_law_617 cw_L_71 (ct_X6_judge (l := l) (D := D) (z0 := (q 0)) (s0 := (q 1)) (s1 := (q 2)) (s2 := (q 3)) (s3 := (q 4)) (s4 := (q 5)) (v0 := (q 6)) (v1 := (q 15)) (l0 := (q 7)) (l1 := (q 8)) (l2 := (q 9)) (l3 := (q 10)) (g0 := (q 11)) (g1 := (q 12)) (g2 := (q 13)) (g3 := (q 14)) (d0 := (q 16)) (y0 := (q 23)) (y1 := (q 24)) (fi := fi) (pc := pc) (b0 := (q 25)) (i0 := (q 29)) (i1 := (q 30)) (i2 := (q 31)) (i3 := (q 32)) (u := u) (o := o) (r := (memTo w 0)) (cA := (sgF 0)) (lA := (sgF 1)) (mA := (sgF 2)) (cB := (sgF 3)) (lB := (sgF 4)) (mB := (sgF 5)) (ta := (sgF 6)) (sv := (sgI 0)) (ctA := (sgI 8)) (ctB := (sgI 9)) (cr := (sgI 1)) (cf := (sgI 2)) (pr := (sgI 3)) (jd := (sgI 4)) (kp := (sgI 5)) (ks := (sgI 6)) (kl := (sgI 7)) (sd := (nI s)) (ad := ad) (rh := rh) (vv := vv) (c := (xs (i + 1))) (d := (xs (i + 2))) (g := (xs (i + 3))) hrow hc.2.2.2 hc.2.2.1 ho ho2 (by omega) hsr) 87 7 rfl (show ([0, 1, 2, 3, 4, 5, 6, 7, 8] ++ [9, 10, 11, 12, 13, 14, 15, 16, 17, 18, 19, 20, 21, 22, 23, 24] : List Nat).Perm (List.range 25) by decide) rfl rfl rfl rfl (fun ⟨_, _, _, _, _, _, _, _, _, _, _, _, _, _, _, _, _, _, _, _, _, _, _, _⟩ => rfl) (fun ⟨_, _, _, _, _, _, _, _, _, _, _, _, _, _, _, _, _, _, _, _, _, _, _, _⟩ => rfl) (fun ⟨_, _, _, _, _, _, _, _, _, _, _, _, _, _, _, _, _, _, _, _, _, _, _, _⟩ => rfl) ⟨by omega, by omega⟩ (Nat.le_of_ble_eq_true rfl) ⟨by omega, by omega⟩ (fun vgh ugh hp => ?_)
  obtain ⟨c_V, c_r2, c_u2, c_f2, c_c2, c_rh2, c_vv2, c_sv2, c_cr2, c_cf2, c_pr2, c_jd2, c_kp2, c_ks2, c_kl2, c_ctA2, c_ctB2, c_cA2, c_lA2, c_mA2, c_cB2, c_lB2, c_mB2, c_ta2⟩ := ugh
  obtain ⟨rfl, c_hv, c_hsg2⟩ := hp
  show G X Q (lawS D q ad im c_r2 c_u2 c_f2 c_c2 c_rh2 c_vv2 (nI s) (fun (k : Nat) => ([c_sv2, c_cr2, c_cf2, c_pr2, c_jd2, c_kp2, c_ks2, c_kl2, c_ctA2, c_ctB2] : List Int32).getD k 0) (fun (k : Nat) => ([c_cA2, c_lA2, c_mA2, c_cB2, c_lB2, c_mB2, c_ta2] : List (Nat → Int32)).getD k (fun _ => 0)) sz t nx cl fn fa v ev wr bo bt bs ir iv iss ik wl w pc kp (nI s) iss t sz fa bo bt bs wr qn cn pa fl lo ln mwl).flatten (ce + 0) (sl + 0) 620 [some (.ref b), some (.ref (q 0)), some (.ref (q 40)), some (.int (nI i))] [.int c_V]
  refine g_aload_n hX dL_law_620 rfl ?_
  refine g_aload_n hX dL_law_621 rfl ?_
  refine g_iload_n hX dL_law_622 rfl ?_
  refine g_iconst hX dL_law_623 kn_i_1 ?_
  refine g_iaddN hX dL_law_624 ?_
  refine g_sld hX hs dL_law_625 hN (by omega) ?_
  refine g_aload_n hX dL_law_626 rfl ?_
  refine g_iload_n hX dL_law_627 rfl ?_
  refine g_iconst hX dL_law_628 kn_i_2 ?_
  refine g_iaddN hX dL_law_629 ?_
  refine g_sld hX hs dL_law_630 hN (by omega) ?_
  refine g_aload_n hX dL_law_631 rfl ?_
  refine g_iload_n hX dL_law_632 rfl ?_
  refine g_iconst hX dL_law_633 kn_i_3 ?_
  refine g_iaddN hX dL_law_634 ?_
  refine g_sld hX hs dL_law_635 hN (by omega) ?_
  refine g_callQ (segs := lawS D q ad im c_r2 c_u2 c_f2 c_c2 c_rh2 c_vv2 (nI s) (fun (k : Nat) => ([c_sv2, c_cr2, c_cf2, c_pr2, c_jd2, c_kp2, c_ks2, c_kl2, c_ctA2, c_ctB2] : List Int32).getD k 0) (fun (k : Nat) => ([c_cA2, c_lA2, c_mA2, c_cB2, c_lB2, c_mB2, c_ta2] : List (Nat → Int32)).getD k (fun _ => 0)) sz t nx cl fn fa v ev wr bo bt bs ir iv iss ik wl w pc kp (nI s) iss t sz fa bo bt bs wr qn cn pa fl lo ln mwl) (fun ugh => match ugh with | (m_V, m_W, m_U, m_Qn, m_Cn) => [gsM0 D q m_U kp (nI s) sz fa wr pa fl ln, gsMw D q m_W, gsMq D q m_Qn, gsMc D q m_Cn]) [16, 17, 21, 22] [0, 1, 2, 3, 4, 5, 6, 7, 8, 9, 10, 11, 12, 13, 14, 15, 18, 19, 20, 23, 24] hX dL_law_636 cw_L_74 (ct_X7_judge (l := l) (D := D) (a0 := (q 40)) (a1 := (q 41)) (a2 := (q 42)) (a3 := (q 43)) (a4 := (q 44)) (a5 := (q 45)) (a6 := (q 46)) (a7 := (q 47)) (a8 := (q 48)) (a9 := (q 49)) (a10 := (q 50)) (uk := pc) (sz := sz) (wr := wr) (pa := pa) (fl := fl) (ln := ln) (kp := kp) (sd := (nI s)) (fa := fa) (w := w) (q := qn) (cl := cn) (c := (xs (i + 1))) (d := (xs (i + 2))) (g := (xs (i + 3))) hc.2.2.2) 0 8 rfl (show ([16, 17, 21, 22] ++ [0, 1, 2, 3, 4, 5, 6, 7, 8, 9, 10, 11, 12, 13, 14, 15, 18, 19, 20, 23, 24] : List Nat).Perm (List.range 25) by decide) rfl rfl rfl rfl (fun ⟨_, _, _, _, _⟩ => rfl) (fun ⟨_, _, _, _, _⟩ => rfl) (fun ⟨_, _, _, _, _⟩ => rfl) ⟨by omega, by omega⟩ (Nat.le_of_ble_eq_true rfl) ⟨by omega, by omega⟩ (fun vgh ugh hp => ?_)
  obtain ⟨m_V, m_W, m_U, m_Qn, m_Cn⟩ := ugh
  obtain ⟨rfl, m_hv⟩ := hp
  show G X Q (lawS D q ad im c_r2 c_u2 c_f2 c_c2 c_rh2 c_vv2 (nI s) (fun (k : Nat) => ([c_sv2, c_cr2, c_cf2, c_pr2, c_jd2, c_kp2, c_ks2, c_kl2, c_ctA2, c_ctB2] : List Int32).getD k 0) (fun (k : Nat) => ([c_cA2, c_lA2, c_mA2, c_cB2, c_lB2, c_mB2, c_ta2] : List (Nat → Int32)).getD k (fun _ => 0)) sz t nx cl fn fa v ev wr bo bt bs ir iv iss ik wl m_W m_U kp (nI s) iss t sz fa bo bt bs wr m_Qn m_Cn pa fl lo ln mwl).flatten (ce + 0 + 0) (sl + 0 + 0) 639 [some (.ref b), some (.ref (q 0)), some (.ref (q 40)), some (.int (nI i))] [.int m_V, .int c_V]
  obtain ⟨hV, hU, hag, hco, hwi, hve⟩ := op_judge hc c_hv m_hv
  subst hV hU
  refine g_icmp_eq (tgt := 881) hX dL_law_639 (by decide) (fun _ => ?_) (fun h => absurd rfl h)
  rw [show lawS D q ad im c_r2 c_u2 c_f2 m_U c_rh2 c_vv2 (nI s) (fun (k : Nat) => ([c_sv2, c_cr2, c_cf2, c_pr2, c_jd2, c_kp2, c_ks2, c_kl2, c_ctA2, c_ctB2] : List Int32).getD k 0) (fun (k : Nat) => ([c_cA2, c_lA2, c_mA2, c_cB2, c_lB2, c_mB2, c_ta2] : List (Nat → Int32)).getD k (fun _ => 0)) sz t nx cl fn fa v ev wr bo bt bs ir iv iss ik wl m_W m_U kp (nI s) iss t sz fa bo bt bs wr m_Qn m_Cn pa fl lo ln mwl = lawS D q ad im m_W c_u2 c_f2 m_U c_rh2 c_vv2 (nI s) (fun (k : Nat) => ([c_sv2, c_cr2, c_cf2, c_pr2, c_jd2, c_kp2, c_ks2, c_kl2, c_ctA2, c_ctB2] : List Int32).getD k 0) (fun (k : Nat) => ([c_cA2, c_lA2, c_mA2, c_cB2, c_lB2, c_mB2, c_ta2] : List (Nat → Int32)).getD k (fun _ => 0)) sz t nx cl fn fa v ev wr bo bt bs ir iv iss ik wl m_W m_U kp (nI s) iss t sz fa bo bt bs wr m_Qn m_Cn pa fl lo ln mwl from lawS_r D hag]
  exact kk m_W c_u2 c_f2 m_U c_rh2 c_vv2 s (fun (k : Nat) => ([c_sv2, c_cr2, c_cf2, c_pr2, c_jd2, c_kp2, c_ks2, c_kl2, c_ctA2, c_ctB2] : List Int32).getD k 0) (fun (k : Nat) => ([c_cA2, c_lA2, c_mA2, c_cB2, c_lB2, c_mB2, c_ta2] : List (Nat → Int32)).getD k (fun _ => 0)) sz t nx cl fn fa v ev wr bo bt bs ir iv iss ik wl kp m_Qn m_Cn pa fl lo ln mwl _ _ (by rcases hve with h | h <;> omega) (by omega) (by omega) ⟨hco, him.next hwi, sgP_c hag c_hsg2, hsz, ht, hwr, hss⟩
set_option maxRecDepth 100000 in
set_option maxHeartbeats 4000000 in
theorem lop_withdraw {X : CT} {l : Launch} {D : va_G} {nm : String} {rt : Option FieldType} {rf rl mc ms : Nat} {Q : State → Prop} {b N i ce sl : Nat} {xs : Nat → Int32} {q ad im : Nat → Nat} {w : Nat → Int32} {u fi pc : Nat} {rh : Nat → Nat → Int32} {vv : Nat → Int32} {s : Nat} {sgI : Nat → Int32} {sgF : Nat → Nat → Int32} {sz : Nat} {t : Nat → Nat} {nx cl fn fa : Int32} {v : Nat → Int32} {ev : Int32} {wr : Nat} {bo bt bs : Nat → Int32} {ir : Nat → Nat → Int32} {iv iss ik wl : Nat → Int32} {kp : Int32} {qn cn : Nat → Int32} {pa fl : Nat} {lo : Nat → Int32} {ln : Nat} {mwl : Nat → Int32} (hX : CX X l D RL nm cL_law 4 rt rf rl mc ms) (hs : SX X b N xs) (hN : N < 2147483648) (hi : i + 7 ≤ N) (hrm : 40 ≤ rf ∧ 2000 ≤ rl) (hcs : ce + 2 ≤ mc ∧ sl + 20 ≤ ms) (hu : u < 1000000) (hI : LInv w u fi pc rh s sgI sgF sz t wr kp ir iss ik) (kk : Nxt X Q D q ad im b i u ce sl) : G X Q (lawC D q ad im w u fi pc rh vv s sgI sgF sz t nx cl fn fa v ev wr bo bt bs ir iv iss ik wl kp qn cn pa fl lo ln mwl) ce sl 644 [some (.ref b), some (.ref (q 0)), some (.ref (q 40)), some (.int (nI i))] [] := by
  obtain ⟨hc, him, hsg, hsz, ht, hwr, hss⟩ := hI
  show G X Q (lawS D q ad im w u fi pc rh vv (nI s) sgI sgF sz t nx cl fn fa v ev wr bo bt bs ir iv iss ik wl w pc kp (nI s) iss t sz fa bo bt bs wr qn cn pa fl lo ln mwl).flatten ce sl 644 [some (.ref b), some (.ref (q 0)), some (.ref (q 40)), some (.int (nI i))] []
  rw [show lawS D q ad im w u fi pc rh vv (nI s) sgI sgF sz t nx cl fn fa v ev wr bo bt bs ir iv iss ik wl w pc kp (nI s) iss t sz fa bo bt bs wr qn cn pa fl lo ln mwl = lawS D q ad im (memTo w 0) u fi pc rh vv (nI s) sgI sgF sz t nx cl fn fa v ev wr bo bt bs ir iv iss ik wl w pc kp (nI s) iss t sz fa bo bt bs wr qn cn pa fl lo ln mwl from lawS_r D (agr_mem w)]
  have hrow : rowOK (memTo w 0) := hc.mem
  have hsr := sgP_c (agr_mem w) hsg
  obtain ⟨o, ho2, ho⟩ := hrow.2.2.2.2.1
  refine g_aload_n hX dL_law_644 rfl ?_
  refine g_aload_n hX dL_law_645 rfl ?_
  refine g_iload_n hX dL_law_646 rfl ?_
  refine g_iconst hX dL_law_647 kn_i_1 ?_
  refine g_iaddN hX dL_law_648 ?_
  refine g_sld hX hs dL_law_649 hN (by omega) ?_
  refine g_aload_n hX dL_law_650 rfl ?_
  refine g_iload_n hX dL_law_651 rfl ?_
  refine g_iconst hX dL_law_652 kn_i_2 ?_
  refine g_iaddN hX dL_law_653 ?_
  refine g_sld hX hs dL_law_654 hN (by omega) ?_
  refine g_callQ (segs := lawS D q ad im (memTo w 0) u fi pc rh vv (nI s) sgI sgF sz t nx cl fn fa v ev wr bo bt bs ir iv iss ik wl w pc kp (nI s) iss t sz fa bo bt bs wr qn cn pa fl lo ln mwl) (fun ugh => match ugh with | (c_V, c_r2, c_u2, c_f2, c_c2, c_rh2, c_vv2) => [gsP0 D q c_f2 c_c2, gsPR D q ad c_rh2 c_vv2, gsN0 D q c_r2 c_u2, gsNE D q c_r2, gsNB D q c_r2, gsNT D q c_r2, gsNG D q c_r2, gsT D q (nI s)]) [0, 1, 2, 3, 4, 5, 6, 7] [8, 9, 10, 11, 12, 13, 14, 15, 16, 17, 18, 19, 20, 21, 22, 23, 24] hX dL_law_655 cw_L_75 (ct_X6_withdraw (l := l) (D := D) (z0 := (q 0)) (s0 := (q 1)) (s1 := (q 2)) (s2 := (q 3)) (s3 := (q 4)) (s4 := (q 5)) (v0 := (q 6)) (d0 := (q 16)) (y0 := (q 23)) (y1 := (q 24)) (fi := fi) (pc := pc) (b0 := (q 25)) (i0 := (q 29)) (i1 := (q 30)) (i2 := (q 31)) (i3 := (q 32)) (u := u) (r := (memTo w 0)) (sd := (nI s)) (ad := ad) (rh := rh) (vv := vv) (c := (xs (i + 1))) (d := (xs (i + 2))) hrow hc.2.2.2 hc.2.2.1) 87 7 rfl (show ([0, 1, 2, 3, 4, 5, 6, 7] ++ [8, 9, 10, 11, 12, 13, 14, 15, 16, 17, 18, 19, 20, 21, 22, 23, 24] : List Nat).Perm (List.range 25) by decide) rfl rfl rfl rfl (fun ⟨_, _, _, _, _, _, _⟩ => rfl) (fun ⟨_, _, _, _, _, _, _⟩ => rfl) (fun ⟨_, _, _, _, _, _, _⟩ => rfl) ⟨by omega, by omega⟩ (Nat.le_of_ble_eq_true rfl) ⟨by omega, by omega⟩ (fun vgh ugh hp => ?_)
  obtain ⟨c_V, c_r2, c_u2, c_f2, c_c2, c_rh2, c_vv2⟩ := ugh
  obtain ⟨rfl, c_hv⟩ := hp
  show G X Q (lawS D q ad im c_r2 c_u2 c_f2 c_c2 c_rh2 c_vv2 (nI s) sgI sgF sz t nx cl fn fa v ev wr bo bt bs ir iv iss ik wl w pc kp (nI s) iss t sz fa bo bt bs wr qn cn pa fl lo ln mwl).flatten (ce + 0) (sl + 0) 658 [some (.ref b), some (.ref (q 0)), some (.ref (q 40)), some (.int (nI i))] [.int c_V]
  refine g_aload_n hX dL_law_658 rfl ?_
  refine g_aload_n hX dL_law_659 rfl ?_
  refine g_iload_n hX dL_law_660 rfl ?_
  refine g_iconst hX dL_law_661 kn_i_1 ?_
  refine g_iaddN hX dL_law_662 ?_
  refine g_sld hX hs dL_law_663 hN (by omega) ?_
  refine g_aload_n hX dL_law_664 rfl ?_
  refine g_iload_n hX dL_law_665 rfl ?_
  refine g_iconst hX dL_law_666 kn_i_2 ?_
  refine g_iaddN hX dL_law_667 ?_
  refine g_sld hX hs dL_law_668 hN (by omega) ?_
  refine g_callQ (segs := lawS D q ad im c_r2 c_u2 c_f2 c_c2 c_rh2 c_vv2 (nI s) sgI sgF sz t nx cl fn fa v ev wr bo bt bs ir iv iss ik wl w pc kp (nI s) iss t sz fa bo bt bs wr qn cn pa fl lo ln mwl) (fun ugh => match ugh with | (m_V, m_W, m_U) => [gsM0 D q m_U kp (nI s) sz fa wr pa fl ln, gsMw D q m_W]) [16, 17] [0, 1, 2, 3, 4, 5, 6, 7, 8, 9, 10, 11, 12, 13, 14, 15, 18, 19, 20, 21, 22, 23, 24] hX dL_law_669 cw_L_78 (ct_X7_withdraw (l := l) (D := D) (a0 := (q 40)) (a1 := (q 41)) (a2 := (q 42)) (a3 := (q 43)) (a4 := (q 44)) (a5 := (q 45)) (a6 := (q 46)) (a7 := (q 47)) (a8 := (q 48)) (a9 := (q 49)) (a10 := (q 50)) (uk := pc) (sz := sz) (wr := wr) (pa := pa) (fl := fl) (ln := ln) (kp := kp) (sd := (nI s)) (fa := fa) (w := w) (c := (xs (i + 1))) (d := (xs (i + 2))) hc.2.2.2) 0 8 rfl (show ([16, 17] ++ [0, 1, 2, 3, 4, 5, 6, 7, 8, 9, 10, 11, 12, 13, 14, 15, 18, 19, 20, 21, 22, 23, 24] : List Nat).Perm (List.range 25) by decide) rfl rfl rfl rfl (fun ⟨_, _, _⟩ => rfl) (fun ⟨_, _, _⟩ => rfl) (fun ⟨_, _, _⟩ => rfl) ⟨by omega, by omega⟩ (Nat.le_of_ble_eq_true rfl) ⟨by omega, by omega⟩ (fun vgh ugh hp => ?_)
  obtain ⟨m_V, m_W, m_U⟩ := ugh
  obtain ⟨rfl, m_hv⟩ := hp
  show G X Q (lawS D q ad im c_r2 c_u2 c_f2 c_c2 c_rh2 c_vv2 (nI s) sgI sgF sz t nx cl fn fa v ev wr bo bt bs ir iv iss ik wl m_W m_U kp (nI s) iss t sz fa bo bt bs wr qn cn pa fl lo ln mwl).flatten (ce + 0 + 0) (sl + 0 + 0) 672 [some (.ref b), some (.ref (q 0)), some (.ref (q 40)), some (.int (nI i))] [.int m_V, .int c_V]
  obtain ⟨hV, hU, hag, hco, hwi, hve⟩ := op_withdraw hc c_hv m_hv
  subst hV hU
  refine g_icmp_eq (tgt := 881) hX dL_law_672 (by decide) (fun _ => ?_) (fun h => absurd rfl h)
  rw [show lawS D q ad im c_r2 c_u2 c_f2 m_U c_rh2 c_vv2 (nI s) sgI sgF sz t nx cl fn fa v ev wr bo bt bs ir iv iss ik wl m_W m_U kp (nI s) iss t sz fa bo bt bs wr qn cn pa fl lo ln mwl = lawS D q ad im m_W c_u2 c_f2 m_U c_rh2 c_vv2 (nI s) sgI sgF sz t nx cl fn fa v ev wr bo bt bs ir iv iss ik wl m_W m_U kp (nI s) iss t sz fa bo bt bs wr qn cn pa fl lo ln mwl from lawS_r D hag]
  exact kk m_W c_u2 c_f2 m_U c_rh2 c_vv2 s sgI sgF sz t nx cl fn fa v ev wr bo bt bs ir iv iss ik wl kp qn cn pa fl lo ln mwl _ _ (by rcases hve with h | h <;> omega) (by omega) (by omega) ⟨hco, him.next hwi, sg_step hsg hve hu, hsz, ht, hwr, hss⟩
set_option maxRecDepth 100000 in
set_option maxHeartbeats 4000000 in
theorem lop_term {X : CT} {l : Launch} {D : va_G} {nm : String} {rt : Option FieldType} {rf rl mc ms : Nat} {Q : State → Prop} {b N i ce sl : Nat} {xs : Nat → Int32} {q ad im : Nat → Nat} {w : Nat → Int32} {u fi pc : Nat} {rh : Nat → Nat → Int32} {vv : Nat → Int32} {s : Nat} {sgI : Nat → Int32} {sgF : Nat → Nat → Int32} {sz : Nat} {t : Nat → Nat} {nx cl fn fa : Int32} {v : Nat → Int32} {ev : Int32} {wr : Nat} {bo bt bs : Nat → Int32} {ir : Nat → Nat → Int32} {iv iss ik wl : Nat → Int32} {kp : Int32} {qn cn : Nat → Int32} {pa fl : Nat} {lo : Nat → Int32} {ln : Nat} {mwl : Nat → Int32} (hX : CX X l D RL nm cL_law 4 rt rf rl mc ms) (hs : SX X b N xs) (hN : N < 2147483648) (hi : i + 7 ≤ N) (hrm : 40 ≤ rf ∧ 2000 ≤ rl) (hcs : ce + 2 ≤ mc ∧ sl + 20 ≤ ms) (hu : u < 1000000) (hI : LInv w u fi pc rh s sgI sgF sz t wr kp ir iss ik) (kk : Nxt X Q D q ad im b i u ce sl) : G X Q (lawC D q ad im w u fi pc rh vv s sgI sgF sz t nx cl fn fa v ev wr bo bt bs ir iv iss ik wl kp qn cn pa fl lo ln mwl) ce sl 677 [some (.ref b), some (.ref (q 0)), some (.ref (q 40)), some (.int (nI i))] [] := by
  obtain ⟨hc, him, hsg, hsz, ht, hwr, hss⟩ := hI
  show G X Q (lawS D q ad im w u fi pc rh vv (nI s) sgI sgF sz t nx cl fn fa v ev wr bo bt bs ir iv iss ik wl w pc kp (nI s) iss t sz fa bo bt bs wr qn cn pa fl lo ln mwl).flatten ce sl 677 [some (.ref b), some (.ref (q 0)), some (.ref (q 40)), some (.int (nI i))] []
  rw [show lawS D q ad im w u fi pc rh vv (nI s) sgI sgF sz t nx cl fn fa v ev wr bo bt bs ir iv iss ik wl w pc kp (nI s) iss t sz fa bo bt bs wr qn cn pa fl lo ln mwl = lawS D q ad im (memTo w 0) u fi pc rh vv (nI s) sgI sgF sz t nx cl fn fa v ev wr bo bt bs ir iv iss ik wl w pc kp (nI s) iss t sz fa bo bt bs wr qn cn pa fl lo ln mwl from lawS_r D (agr_mem w)]
  have hrow : rowOK (memTo w 0) := hc.mem
  have hsr := sgP_c (agr_mem w) hsg
  obtain ⟨o, ho2, ho⟩ := hrow.2.2.2.2.1
  refine g_aload_n hX dL_law_677 rfl ?_
  refine g_aload_n hX dL_law_678 rfl ?_
  refine g_iload_n hX dL_law_679 rfl ?_
  refine g_iconst hX dL_law_680 kn_i_1 ?_
  refine g_iaddN hX dL_law_681 ?_
  refine g_sld hX hs dL_law_682 hN (by omega) ?_
  refine g_aload_n hX dL_law_683 rfl ?_
  refine g_iload_n hX dL_law_684 rfl ?_
  refine g_iconst hX dL_law_685 kn_i_2 ?_
  refine g_iaddN hX dL_law_686 ?_
  refine g_sld hX hs dL_law_687 hN (by omega) ?_
  refine g_callQ (segs := lawS D q ad im (memTo w 0) u fi pc rh vv (nI s) sgI sgF sz t nx cl fn fa v ev wr bo bt bs ir iv iss ik wl w pc kp (nI s) iss t sz fa bo bt bs wr qn cn pa fl lo ln mwl) (fun ugh => match ugh with | (c_V, c_r2, c_u2, c_f2, c_c2, c_rh2, c_vv2) => [gsP0 D q c_f2 c_c2, gsPR D q ad c_rh2 c_vv2, gsN0 D q c_r2 c_u2, gsNE D q c_r2, gsNB D q c_r2, gsNT D q c_r2, gsNG D q c_r2, gsT D q (nI s)]) [0, 1, 2, 3, 4, 5, 6, 7] [8, 9, 10, 11, 12, 13, 14, 15, 16, 17, 18, 19, 20, 21, 22, 23, 24] hX dL_law_688 cw_L_79 (ct_X6_term (l := l) (D := D) (z0 := (q 0)) (s0 := (q 1)) (s1 := (q 2)) (s2 := (q 3)) (s3 := (q 4)) (s4 := (q 5)) (v0 := (q 6)) (d0 := (q 16)) (y0 := (q 23)) (y1 := (q 24)) (fi := fi) (pc := pc) (b0 := (q 25)) (i0 := (q 29)) (i1 := (q 30)) (i2 := (q 31)) (i3 := (q 32)) (u := u) (r := (memTo w 0)) (sd := (nI s)) (ad := ad) (rh := rh) (vv := vv) (kx := (xs (i + 1))) (v := (xs (i + 2))) hrow hc.2.2.2 hc.2.2.1) 87 7 rfl (show ([0, 1, 2, 3, 4, 5, 6, 7] ++ [8, 9, 10, 11, 12, 13, 14, 15, 16, 17, 18, 19, 20, 21, 22, 23, 24] : List Nat).Perm (List.range 25) by decide) rfl rfl rfl rfl (fun ⟨_, _, _, _, _, _, _⟩ => rfl) (fun ⟨_, _, _, _, _, _, _⟩ => rfl) (fun ⟨_, _, _, _, _, _, _⟩ => rfl) ⟨by omega, by omega⟩ (Nat.le_of_ble_eq_true rfl) ⟨by omega, by omega⟩ (fun vgh ugh hp => ?_)
  obtain ⟨c_V, c_r2, c_u2, c_f2, c_c2, c_rh2, c_vv2⟩ := ugh
  obtain ⟨rfl, c_hv⟩ := hp
  show G X Q (lawS D q ad im c_r2 c_u2 c_f2 c_c2 c_rh2 c_vv2 (nI s) sgI sgF sz t nx cl fn fa v ev wr bo bt bs ir iv iss ik wl w pc kp (nI s) iss t sz fa bo bt bs wr qn cn pa fl lo ln mwl).flatten (ce + 0) (sl + 0) 691 [some (.ref b), some (.ref (q 0)), some (.ref (q 40)), some (.int (nI i))] [.int c_V]
  refine g_aload_n hX dL_law_691 rfl ?_
  refine g_aload_n hX dL_law_692 rfl ?_
  refine g_iload_n hX dL_law_693 rfl ?_
  refine g_iconst hX dL_law_694 kn_i_1 ?_
  refine g_iaddN hX dL_law_695 ?_
  refine g_sld hX hs dL_law_696 hN (by omega) ?_
  refine g_aload_n hX dL_law_697 rfl ?_
  refine g_iload_n hX dL_law_698 rfl ?_
  refine g_iconst hX dL_law_699 kn_i_2 ?_
  refine g_iaddN hX dL_law_700 ?_
  refine g_sld hX hs dL_law_701 hN (by omega) ?_
  refine g_callQ (segs := lawS D q ad im c_r2 c_u2 c_f2 c_c2 c_rh2 c_vv2 (nI s) sgI sgF sz t nx cl fn fa v ev wr bo bt bs ir iv iss ik wl w pc kp (nI s) iss t sz fa bo bt bs wr qn cn pa fl lo ln mwl) (fun ugh => match ugh with | (m_V, m_W, m_U) => [gsM0 D q m_U kp (nI s) sz fa wr pa fl ln, gsMw D q m_W]) [16, 17] [0, 1, 2, 3, 4, 5, 6, 7, 8, 9, 10, 11, 12, 13, 14, 15, 18, 19, 20, 21, 22, 23, 24] hX dL_law_702 cw_L_82 (ct_X7_term (l := l) (D := D) (a0 := (q 40)) (a1 := (q 41)) (a2 := (q 42)) (a3 := (q 43)) (a4 := (q 44)) (a5 := (q 45)) (a6 := (q 46)) (a7 := (q 47)) (a8 := (q 48)) (a9 := (q 49)) (a10 := (q 50)) (uk := pc) (sz := sz) (wr := wr) (pa := pa) (fl := fl) (ln := ln) (kp := kp) (sd := (nI s)) (fa := fa) (w := w) (k := (xs (i + 1))) (v := (xs (i + 2))) hc.2.2.2) 0 8 rfl (show ([16, 17] ++ [0, 1, 2, 3, 4, 5, 6, 7, 8, 9, 10, 11, 12, 13, 14, 15, 18, 19, 20, 21, 22, 23, 24] : List Nat).Perm (List.range 25) by decide) rfl rfl rfl rfl (fun ⟨_, _, _⟩ => rfl) (fun ⟨_, _, _⟩ => rfl) (fun ⟨_, _, _⟩ => rfl) ⟨by omega, by omega⟩ (Nat.le_of_ble_eq_true rfl) ⟨by omega, by omega⟩ (fun vgh ugh hp => ?_)
  obtain ⟨m_V, m_W, m_U⟩ := ugh
  obtain ⟨rfl, m_hv⟩ := hp
  show G X Q (lawS D q ad im c_r2 c_u2 c_f2 c_c2 c_rh2 c_vv2 (nI s) sgI sgF sz t nx cl fn fa v ev wr bo bt bs ir iv iss ik wl m_W m_U kp (nI s) iss t sz fa bo bt bs wr qn cn pa fl lo ln mwl).flatten (ce + 0 + 0) (sl + 0 + 0) 705 [some (.ref b), some (.ref (q 0)), some (.ref (q 40)), some (.int (nI i))] [.int m_V, .int c_V]
  obtain ⟨hV, hU, hag, hco, hwi, hve⟩ := op_term hc c_hv m_hv
  subst hV hU
  refine g_icmp_eq (tgt := 881) hX dL_law_705 (by decide) (fun _ => ?_) (fun h => absurd rfl h)
  rw [show lawS D q ad im c_r2 c_u2 c_f2 m_U c_rh2 c_vv2 (nI s) sgI sgF sz t nx cl fn fa v ev wr bo bt bs ir iv iss ik wl m_W m_U kp (nI s) iss t sz fa bo bt bs wr qn cn pa fl lo ln mwl = lawS D q ad im m_W c_u2 c_f2 m_U c_rh2 c_vv2 (nI s) sgI sgF sz t nx cl fn fa v ev wr bo bt bs ir iv iss ik wl m_W m_U kp (nI s) iss t sz fa bo bt bs wr qn cn pa fl lo ln mwl from lawS_r D hag]
  exact kk m_W c_u2 c_f2 m_U c_rh2 c_vv2 s sgI sgF sz t nx cl fn fa v ev wr bo bt bs ir iv iss ik wl kp qn cn pa fl lo ln mwl _ _ (by rcases hve with h | h <;> omega) (by omega) (by omega) ⟨hco, him.next hwi, sg_step hsg hve hu, hsz, ht, hwr, hss⟩
