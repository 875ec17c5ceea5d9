set_option maxRecDepth 100000 in
set_option maxHeartbeats 4000000 in
theorem lop_drift {X : CT} {l : Launch} {D : va_G} {nm : String} {rt : Option FieldType} {rf rl mc ms : Nat} {Q : State → Prop} {b N i ce sl : Nat} {xs : Nat → Int32} {q ad im : Nat → Nat} {w : Nat → Int32} {u fi pc : Nat} {rh : Nat → Nat → Int32} {vv : Nat → Int32} {s : Nat} {sgI : Nat → Int32} {sgF : Nat → Nat → Int32} {sz : Nat} {t : Nat → Nat} {nx cl fn fa : Int32} {v : Nat → Int32} {ev : Int32} {wr : Nat} {bo bt bs : Nat → Int32} {ir : Nat → Nat → Int32} {iv iss ik wl : Nat → Int32} {kp : Int32} {qn cn : Nat → Int32} {pa fl : Nat} {lo : Nat → Int32} {ln : Nat} {mwl : Nat → Int32} (hX : CX X l D RL nm cL_law 4 rt rf rl mc ms) (hs : SX X b N xs) (hN : N < 2147483648) (hi : i + 7 ≤ N) (hrm : 40 ≤ rf ∧ 2000 ≤ rl) (hcs : ce + 2 ≤ mc ∧ sl + 20 ≤ ms) (hu : u < 1000000) (hI : LInv w u fi pc rh s sgI sgF sz t wr kp ir iss ik) (kk : Nxt X Q D q ad im b i u ce sl) : G X Q (lawC D q ad im w u fi pc rh vv s sgI sgF sz t nx cl fn fa v ev wr bo bt bs ir iv iss ik wl kp qn cn pa fl lo ln mwl) ce sl 710 [some (.ref b), some (.ref (q 0)), some (.ref (q 40)), some (.int (nI i))] [] := by
  obtain ⟨hc, him, hsg, hsz, ht, hwr, hss⟩ := hI
  show G X Q (lawS D q ad im w u fi pc rh vv (nI s) sgI sgF sz t nx cl fn fa v ev wr bo bt bs ir iv iss ik wl w pc kp (nI s) iss t sz fa bo bt bs wr qn cn pa fl lo ln mwl).flatten ce sl 710 [some (.ref b), some (.ref (q 0)), some (.ref (q 40)), some (.int (nI i))] []
  have hrow : rowOK w := hc.row
  have hsr := hsg
  obtain ⟨o, ho2, ho⟩ := hrow.2.2.2.2.1
  obtain ⟨nx9, hN9⟩ : ∃ z, z = nxN := ⟨_, rfl⟩
  obtain ⟨rn9, hR9⟩ : ∃ z, z = rnN := ⟨_, rfl⟩
  refine g_aload_n hX dL_law_710 rfl ?_
  refine g_aload_n hX dL_law_711 rfl ?_
  refine g_iload_n hX dL_law_712 rfl ?_
  refine g_iconst hX dL_law_713 kn_i_1 ?_
  refine g_iaddN hX dL_law_714 ?_
  refine g_sld hX hs dL_law_715 hN (by omega) ?_
  refine g_callQ (segs := lawS D q ad im w u fi pc rh vv (nI s) sgI sgF sz t nx cl fn fa v ev wr bo bt bs ir iv iss ik wl w pc kp (nI s) iss t sz fa bo bt bs wr qn cn pa fl lo ln mwl) (fun ugh => match ugh with | (c_V, c_r2, c_u2, c_S2, c_f2, c_c2, c_rh2, c_vv2) => [gsP0 D q c_f2 c_c2, gsPR D q ad c_rh2 c_vv2, gsN0 D q c_r2 c_u2, gsNE D q c_r2, gsNB D q c_r2, gsNT D q c_r2, gsNG D q c_r2, gsT D q (nI c_S2)]) [0, 1, 2, 3, 4, 5, 6, 7] [8, 9, 10, 11, 12, 13, 14, 15, 16, 17, 18, 19, 20, 21, 22, 23, 24] hX dL_law_716 cw_L_83 (ct_X6_drift (l := l) (D := D) (z0 := (q 0)) (s0 := (q 1)) (s1 := (q 2)) (s2 := (q 3)) (s3 := (q 4)) (s4 := (q 5)) (v0 := (q 6)) (d0 := (q 16)) (y0 := (q 23)) (y1 := (q 24)) (fi := fi) (pc := pc) (b0 := (q 25)) (i0 := (q 29)) (i1 := (q 30)) (i2 := (q 31)) (i3 := (q 32)) (u := u) (r := w) (s := s) (nx := nx9) (rn := rn9) (ad := ad) (rh := rh) (vv := vv) (n := (xs (i + 1))) hc.2.2.2 hc.2.2.1 hN9 hR9 hss) 87 7 rfl (show ([0, 1, 2, 3, 4, 5, 6, 7] ++ [8, 9, 10, 11, 12, 13, 14, 15, 16, 17, 18, 19, 20, 21, 22, 23, 24] : List Nat).Perm (List.range 25) by decide) rfl rfl rfl rfl (fun ⟨_, _, _, _, _, _, _, _⟩ => rfl) (fun ⟨_, _, _, _, _, _, _, _⟩ => rfl) (fun ⟨_, _, _, _, _, _, _, _⟩ => rfl) ⟨by omega, by omega⟩ (Nat.le_of_ble_eq_true rfl) ⟨by omega, by omega⟩ (fun vgh ugh hp => ?_)
  obtain ⟨c_V, c_r2, c_u2, c_S2, c_f2, c_c2, c_rh2, c_vv2⟩ := ugh
  obtain ⟨rfl, c_hv, c_hu1, c_hu2, c_hu3⟩ := hp
  show G X Q (lawS D q ad im c_r2 c_u2 c_f2 c_c2 c_rh2 c_vv2 (nI c_S2) sgI sgF sz t nx cl fn fa v ev wr bo bt bs ir iv iss ik wl w pc kp (nI s) iss t sz fa bo bt bs wr qn cn pa fl lo ln mwl).flatten (ce + 0) (sl + 0) 719 [some (.ref b), some (.ref (q 0)), some (.ref (q 40)), some (.int (nI i))] [.int c_V]
  refine g_aload_n hX dL_law_719 rfl ?_
  refine g_aload_n hX dL_law_720 rfl ?_
  refine g_iload_n hX dL_law_721 rfl ?_
  refine g_iconst hX dL_law_722 kn_i_1 ?_
  refine g_iaddN hX dL_law_723 ?_
  refine g_sld hX hs dL_law_724 hN (by omega) ?_
  refine g_callQ (segs := lawS D q ad im c_r2 c_u2 c_f2 c_c2 c_rh2 c_vv2 (nI c_S2) sgI sgF sz t nx cl fn fa v ev wr bo bt bs ir iv iss ik wl w pc kp (nI s) iss t sz fa bo bt bs wr qn cn pa fl lo ln mwl) (fun ugh => match ugh with | (m_V, m_W, m_U, m_S) => [gsM0 D q m_U kp (nI m_S) sz fa wr pa fl ln, gsMw D q m_W]) [16, 17] [0, 1, 2, 3, 4, 5, 6, 7, 8, 9, 10, 11, 12, 13, 14, 15, 18, 19, 20, 21, 22, 23, 24] hX dL_law_725 cw_L_86 (ct_X7_drift (l := l) (D := D) (a0 := (q 40)) (a1 := (q 41)) (a2 := (q 42)) (a3 := (q 43)) (a4 := (q 44)) (a5 := (q 45)) (a6 := (q 46)) (a7 := (q 47)) (a8 := (q 48)) (a9 := (q 49)) (a10 := (q 50)) (uk := pc) (sz := sz) (wr := wr) (pa := pa) (fl := fl) (ln := ln) (kp := kp) (fa := fa) (s := s) (nx := nx9) (rn := rn9) (w := w) (n := (xs (i + 1))) hc.2.2.2 hss hN9 hR9) 0 8 rfl (show ([16, 17] ++ [0, 1, 2, 3, 4, 5, 6, 7, 8, 9, 10, 11, 12, 13, 14, 15, 18, 19, 20, 21, 22, 23, 24] : List Nat).Perm (List.range 25) by decide) rfl rfl rfl rfl (fun ⟨_, _, _, _⟩ => rfl) (fun ⟨_, _, _, _⟩ => rfl) (fun ⟨_, _, _, _⟩ => rfl) ⟨by omega, by omega⟩ (Nat.le_of_ble_eq_true rfl) ⟨by omega, by omega⟩ (fun vgh ugh hp => ?_)
  obtain ⟨m_V, m_W, m_U, m_S⟩ := ugh
  obtain ⟨rfl, m_hv⟩ := hp
  show G X Q (lawS D q ad im c_r2 c_u2 c_f2 c_c2 c_rh2 c_vv2 (nI c_S2) sgI sgF sz t nx cl fn fa v ev wr bo bt bs ir iv iss ik wl m_W m_U kp (nI m_S) iss t sz fa bo bt bs wr qn cn pa fl lo ln mwl).flatten (ce + 0 + 0) (sl + 0 + 0) 728 [some (.ref b), some (.ref (q 0)), some (.ref (q 40)), some (.int (nI i))] [.int m_V, .int c_V]
  obtain ⟨hV, hU, hSS, hs9, hag, hco, hwi⟩ := op_drift hN9 hR9 hc hss c_hv m_hv
  subst hV hU hSS
  refine g_icmp_eq (tgt := 881) hX dL_law_728 (by decide) (fun _ => ?_) (fun h => absurd rfl h)
  rw [show lawS D q ad im c_r2 c_u2 c_f2 m_U c_rh2 c_vv2 (nI c_S2) sgI sgF sz t nx cl fn fa v ev wr bo bt bs ir iv iss ik wl m_W m_U kp (nI c_S2) iss t sz fa bo bt bs wr qn cn pa fl lo ln mwl = lawS D q ad im m_W c_u2 c_f2 m_U c_rh2 c_vv2 (nI c_S2) sgI sgF sz t nx cl fn fa v ev wr bo bt bs ir iv iss ik wl m_W m_U kp (nI c_S2) iss t sz fa bo bt bs wr qn cn pa fl lo ln mwl from lawS_r D hag]
  exact kk m_W c_u2 c_f2 m_U c_rh2 c_vv2 c_S2 sgI sgF sz t nx cl fn fa v ev wr bo bt bs ir iv iss ik wl kp qn cn pa fl lo ln mwl _ _ c_hu2 (by omega) (by omega) ⟨hco, him.next hwi, sg_drift hsg c_hu1 c_hu2 c_hu3 hag hu, hsz, ht, hwr, hs9⟩
set_option maxRecDepth 100000 in
set_option maxHeartbeats 4000000 in
theorem lop_undo {X : CT} {l : Launch} {D : va_G} {nm : String} {rt : Option FieldType} {rf rl mc ms : Nat} {Q : State → Prop} {b N i ce sl : Nat} {xs : Nat → Int32} {q ad im : Nat → Nat} {w : Nat → Int32} {u fi pc : Nat} {rh : Nat → Nat → Int32} {vv : Nat → Int32} {s : Nat} {sgI : Nat → Int32} {sgF : Nat → Nat → Int32} {sz : Nat} {t : Nat → Nat} {nx cl fn fa : Int32} {v : Nat → Int32} {ev : Int32} {wr : Nat} {bo bt bs : Nat → Int32} {ir : Nat → Nat → Int32} {iv iss ik wl : Nat → Int32} {kp : Int32} {qn cn : Nat → Int32} {pa fl : Nat} {lo : Nat → Int32} {ln : Nat} {mwl : Nat → Int32} (hX : CX X l D RL nm cL_law 4 rt rf rl mc ms) (hs : SX X b N xs) (hN : N < 2147483648) (hi : i + 7 ≤ N) (hrm : 40 ≤ rf ∧ 2000 ≤ rl) (hcs : ce + 2 ≤ mc ∧ sl + 20 ≤ ms) (hu : u < 1000000) (hI : LInv w u fi pc rh s sgI sgF sz t wr kp ir iss ik) (kk : Nxt X Q D q ad im b i u ce sl) : G X Q (lawC D q ad im w u fi pc rh vv s sgI sgF sz t nx cl fn fa v ev wr bo bt bs ir iv iss ik wl kp qn cn pa fl lo ln mwl) ce sl 733 [some (.ref b), some (.ref (q 0)), some (.ref (q 40)), some (.int (nI i))] [] := by
  obtain ⟨hc, him, hsg, hsz, ht, hwr, hss⟩ := hI
  show G X Q (lawS D q ad im w u fi pc rh vv (nI s) sgI sgF sz t nx cl fn fa v ev wr bo bt bs ir iv iss ik wl w pc kp (nI s) iss t sz fa bo bt bs wr qn cn pa fl lo ln mwl).flatten ce sl 733 [some (.ref b), some (.ref (q 0)), some (.ref (q 40)), some (.int (nI i))] []
  have hrow : rowOK w := hc.row
  have hsr := hsg
  obtain ⟨o, ho2, ho⟩ := hrow.2.2.2.2.1
  refine g_aload_n hX dL_law_733 rfl ?_
  refine g_aload_n hX dL_law_734 rfl ?_
  refine g_iload_n hX dL_law_735 rfl ?_
  refine g_iconst hX dL_law_736 kn_i_1 ?_
  refine g_iaddN hX dL_law_737 ?_
  refine g_sld hX hs dL_law_738 hN (by omega) ?_
  refine g_callQ (segs := lawS D q ad im w u fi pc rh vv (nI s) sgI sgF sz t nx cl fn fa v ev wr bo bt bs ir iv iss ik wl w pc kp (nI s) iss t sz fa bo bt bs wr qn cn pa fl lo ln mwl) (fun ugh => match ugh with | (c_V, c_r2, c_u2, c_c2) => [gsP0 D q fi c_c2, gsPR D q ad rh vv, gsN0 D q c_r2 c_u2, gsNE D q c_r2, gsNB D q c_r2, gsNT D q c_r2, gsNG D q c_r2, gsT D q (nI s)]) [0, 1, 2, 3, 4, 5, 6, 7] [8, 9, 10, 11, 12, 13, 14, 15, 16, 17, 18, 19, 20, 21, 22, 23, 24] hX dL_law_739 cw_L_87 (ct_X6_undo (l := l) (D := D) (z0 := (q 0)) (s0 := (q 1)) (s1 := (q 2)) (s2 := (q 3)) (s3 := (q 4)) (s4 := (q 5)) (v0 := (q 6)) (d0 := (q 16)) (y0 := (q 23)) (y1 := (q 24)) (fi := fi) (pc := pc) (b0 := (q 25)) (i0 := (q 29)) (i1 := (q 30)) (i2 := (q 31)) (i3 := (q 32)) (u := u) (r := w) (sd := (nI s)) (ad := ad) (rh := rh) (vv := vv) (n := (xs (i + 1))) hc.2.2.2 hc.2.2.1) 87 7 rfl (show ([0, 1, 2, 3, 4, 5, 6, 7] ++ [8, 9, 10, 11, 12, 13, 14, 15, 16, 17, 18, 19, 20, 21, 22, 23, 24] : List Nat).Perm (List.range 25) by decide) rfl rfl rfl rfl (fun ⟨_, _, _, _⟩ => rfl) (fun ⟨_, _, _, _⟩ => rfl) (fun ⟨_, _, _, _⟩ => rfl) ⟨by omega, by omega⟩ (Nat.le_of_ble_eq_true rfl) ⟨by omega, by omega⟩ (fun vgh ugh hp => ?_)
  obtain ⟨c_V, c_r2, c_u2, c_c2⟩ := ugh
  obtain ⟨rfl, c_hv⟩ := hp
  show G X Q (lawS D q ad im c_r2 c_u2 fi c_c2 rh vv (nI s) sgI sgF sz t nx cl fn fa v ev wr bo bt bs ir iv iss ik wl w pc kp (nI s) iss t sz fa bo bt bs wr qn cn pa fl lo ln mwl).flatten (ce + 0) (sl + 0) 742 [some (.ref b), some (.ref (q 0)), some (.ref (q 40)), some (.int (nI i))] [.int c_V]
  refine g_aload_n hX dL_law_742 rfl ?_
  refine g_aload_n hX dL_law_743 rfl ?_
  refine g_iload_n hX dL_law_744 rfl ?_
  refine g_iconst hX dL_law_745 kn_i_1 ?_
  refine g_iaddN hX dL_law_746 ?_
  refine g_sld hX hs dL_law_747 hN (by omega) ?_
  refine g_callQ (segs := lawS D q ad im c_r2 c_u2 fi c_c2 rh vv (nI s) sgI sgF sz t nx cl fn fa v ev wr bo bt bs ir iv iss ik wl w pc kp (nI s) iss t sz fa bo bt bs wr qn cn pa fl lo ln mwl) (fun ugh => match ugh with | (m_V, m_W, m_U) => [gsM0 D q m_U kp (nI s) sz fa wr pa fl ln, gsMw D q m_W]) [16, 17] [0, 1, 2, 3, 4, 5, 6, 7, 8, 9, 10, 11, 12, 13, 14, 15, 18, 19, 20, 21, 22, 23, 24] hX dL_law_748 cw_L_90 (ct_X7_undo (l := l) (D := D) (a0 := (q 40)) (a1 := (q 41)) (a2 := (q 42)) (a3 := (q 43)) (a4 := (q 44)) (a5 := (q 45)) (a6 := (q 46)) (a7 := (q 47)) (a8 := (q 48)) (a9 := (q 49)) (a10 := (q 50)) (uk := pc) (sz := sz) (wr := wr) (pa := pa) (fl := fl) (ln := ln) (kp := kp) (sd := (nI s)) (fa := fa) (w := w) (n := (xs (i + 1))) hc.2.2.2) 0 8 rfl (show ([16, 17] ++ [0, 1, 2, 3, 4, 5, 6, 7, 8, 9, 10, 11, 12, 13, 14, 15, 18, 19, 20, 21, 22, 23, 24] : List Nat).Perm (List.range 25) by decide) rfl rfl rfl rfl (fun ⟨_, _, _⟩ => rfl) (fun ⟨_, _, _⟩ => rfl) (fun ⟨_, _, _⟩ => rfl) ⟨by omega, by omega⟩ (Nat.le_of_ble_eq_true rfl) ⟨by omega, by omega⟩ (fun vgh ugh hp => ?_)
  obtain ⟨m_V, m_W, m_U⟩ := ugh
  obtain ⟨rfl, m_hv⟩ := hp
  show G X Q (lawS D q ad im c_r2 c_u2 fi c_c2 rh vv (nI s) sgI sgF sz t nx cl fn fa v ev wr bo bt bs ir iv iss ik wl m_W m_U kp (nI s) iss t sz fa bo bt bs wr qn cn pa fl lo ln mwl).flatten (ce + 0 + 0) (sl + 0 + 0) 751 [some (.ref b), some (.ref (q 0)), some (.ref (q 40)), some (.int (nI i))] [.int m_V, .int c_V]
  obtain ⟨hV, hU, hag, hco, hwi, hve⟩ := op_undo hc c_hv m_hv
  subst hV hU
  refine g_icmp_eq (tgt := 881) hX dL_law_751 (by decide) (fun _ => ?_) (fun h => absurd rfl h)
  rw [show lawS D q ad im c_r2 c_u2 fi m_U rh vv (nI s) sgI sgF sz t nx cl fn fa v ev wr bo bt bs ir iv iss ik wl m_W m_U kp (nI s) iss t sz fa bo bt bs wr qn cn pa fl lo ln mwl = lawS D q ad im m_W c_u2 fi m_U rh vv (nI s) sgI sgF sz t nx cl fn fa v ev wr bo bt bs ir iv iss ik wl m_W m_U kp (nI s) iss t sz fa bo bt bs wr qn cn pa fl lo ln mwl from lawS_r D hag]
  exact kk m_W c_u2 fi m_U rh vv s sgI sgF sz t nx cl fn fa v ev wr bo bt bs ir iv iss ik wl kp qn cn pa fl lo ln mwl _ _ (by rcases hve with h | h <;> omega) (by omega) (by omega) ⟨hco, him.next hwi, sg_step hsg hve hu, hsz, ht, hwr, hss⟩
set_option maxRecDepth 100000 in
set_option maxHeartbeats 4000000 in
theorem lop_write {X : CT} {l : Launch} {D : va_G} {nm : String} {rt : Option FieldType} {rf rl mc ms : Nat} {Q : State → Prop} {b N i ce sl : Nat} {xs : Nat → Int32} {q ad im : Nat → Nat} {w : Nat → Int32} {u fi pc : Nat} {rh : Nat → Nat → Int32} {vv : Nat → Int32} {s : Nat} {sgI : Nat → Int32} {sgF : Nat → Nat → Int32} {sz : Nat} {t : Nat → Nat} {nx cl fn fa : Int32} {v : Nat → Int32} {ev : Int32} {wr : Nat} {bo bt bs : Nat → Int32} {ir : Nat → Nat → Int32} {iv iss ik wl : Nat → Int32} {kp : Int32} {qn cn : Nat → Int32} {pa fl : Nat} {lo : Nat → Int32} {ln : Nat} {mwl : Nat → Int32} (hX : CX X l D RL nm cL_law 4 rt rf rl mc ms) (hs : SX X b N xs) (hN : N < 2147483648) (hi : i + 7 ≤ N) (hrm : 40 ≤ rf ∧ 2000 ≤ rl) (hcs : ce + 2 ≤ mc ∧ sl + 20 ≤ ms) (hu : u < 1000000) (hI : LInv w u fi pc rh s sgI sgF sz t wr kp ir iss ik) (kk : Nxt X Q D q ad im b i u ce sl) : G X Q (lawC D q ad im w u fi pc rh vv s sgI sgF sz t nx cl fn fa v ev wr bo bt bs ir iv iss ik wl kp qn cn pa fl lo ln mwl) ce sl 756 [some (.ref b), some (.ref (q 0)), some (.ref (q 40)), some (.int (nI i))] [] := by
  obtain ⟨hc, him, hsg, hsz, ht, hwr, hss⟩ := hI
  show G X Q (lawS D q ad im w u fi pc rh vv (nI s) sgI sgF sz t nx cl fn fa v ev wr bo bt bs ir iv iss ik wl w pc kp (nI s) iss t sz fa bo bt bs wr qn cn pa fl lo ln mwl).flatten ce sl 756 [some (.ref b), some (.ref (q 0)), some (.ref (q 40)), some (.int (nI i))] []
  have hrow : rowOK w := hc.row
  have hsr := hsg
  obtain ⟨o, ho2, ho⟩ := hrow.2.2.2.2.1
  refine g_aload_n hX dL_law_756 rfl ?_
  refine g_aload_n hX dL_law_757 rfl ?_
  refine g_iload_n hX dL_law_758 rfl ?_
  refine g_iconst hX dL_law_759 kn_i_1 ?_
  refine g_iaddN hX dL_law_760 ?_
  refine g_sld hX hs dL_law_761 hN (by omega) ?_
  refine g_aload_n hX dL_law_762 rfl ?_
  refine g_iload_n hX dL_law_763 rfl ?_
  refine g_iconst hX dL_law_764 kn_i_2 ?_
  refine g_iaddN hX dL_law_765 ?_
  refine g_sld hX hs dL_law_766 hN (by omega) ?_
  refine g_aload_n hX dL_law_767 rfl ?_
  refine g_iload_n hX dL_law_768 rfl ?_
  refine g_iconst hX dL_law_769 kn_i_3 ?_
  refine g_iaddN hX dL_law_770 ?_
  refine g_sld hX hs dL_law_771 hN (by omega) ?_
  refine g_callQ (segs := lawS D q ad im w u fi pc rh vv (nI s) sgI sgF sz t nx cl fn fa v ev wr bo bt bs ir iv iss ik wl w pc kp (nI s) iss t sz fa bo bt bs wr qn cn pa fl lo ln mwl) (fun ugh => match ugh with | (c_V, c_Bo, c_Bt, c_Bs, c_Wr) => [gsT D q (nI s), gsN0 D q w u, gsB0 D q c_Wr, gsBA D q c_Bo c_Bt c_Bs]) [7, 2, 12, 13] [0, 1, 3, 4, 5, 6, 8, 9, 10, 11, 14, 15, 16, 17, 18, 19, 20, 21, 22, 23, 24] hX dL_law_772 cw_L_91 (ct_X6_write (l := l) (D := D) (z0 := (q 0)) (s0 := (q 1)) (s1 := (q 2)) (s2 := (q 3)) (s3 := (q 4)) (s4 := (q 5)) (v0 := (q 6)) (d0 := (q 16)) (y0 := (q 23)) (b0 := (q 25)) (b1 := (q 26)) (b2 := (q 27)) (b3 := (q 28)) (i0 := (q 29)) (i1 := (q 30)) (i2 := (q 31)) (i3 := (q 32)) (u := u) (r := w) (sd := (nI s)) (wr := wr) (bo := bo) (bt := bt) (bs := bs) (c := (xs (i + 1))) (d := (xs (i + 2))) (g := (xs (i + 3))) hwr) 0 7 rfl (show ([7, 2, 12, 13] ++ [0, 1, 3, 4, 5, 6, 8, 9, 10, 11, 14, 15, 16, 17, 18, 19, 20, 21, 22, 23, 24] : List Nat).Perm (List.range 25) by decide) rfl rfl rfl rfl (fun ⟨_, _, _, _, _⟩ => rfl) (fun ⟨_, _, _, _, _⟩ => rfl) (fun ⟨_, _, _, _, _⟩ => rfl) ⟨by omega, by omega⟩ (Nat.le_of_ble_eq_true rfl) ⟨by omega, by omega⟩ (fun vgh ugh hp => ?_)
  obtain ⟨c_V, c_Bo, c_Bt, c_Bs, c_Wr⟩ := ugh
  obtain ⟨rfl, c_hv⟩ := hp
  show G X Q (lawS D q ad im w u fi pc rh vv (nI s) sgI sgF sz t nx cl fn fa v ev c_Wr c_Bo c_Bt c_Bs ir iv iss ik wl w pc kp (nI s) iss t sz fa bo bt bs wr qn cn pa fl lo ln mwl).flatten (ce + 0) (sl + 0) 775 [some (.ref b), some (.ref (q 0)), some (.ref (q 40)), some (.int (nI i))] [.int c_V]
  refine g_aload_n hX dL_law_775 rfl ?_
  refine g_aload_n hX dL_law_776 rfl ?_
  refine g_iload_n hX dL_law_777 rfl ?_
  refine g_iconst hX dL_law_778 kn_i_1 ?_
  refine g_iaddN hX dL_law_779 ?_
  refine g_sld hX hs dL_law_780 hN (by omega) ?_
  refine g_aload_n hX dL_law_781 rfl ?_
  refine g_iload_n hX dL_law_782 rfl ?_
  refine g_iconst hX dL_law_783 kn_i_2 ?_
  refine g_iaddN hX dL_law_784 ?_
  refine g_sld hX hs dL_law_785 hN (by omega) ?_
  refine g_aload_n hX dL_law_786 rfl ?_
  refine g_iload_n hX dL_law_787 rfl ?_
  refine g_iconst hX dL_law_788 kn_i_3 ?_
  refine g_iaddN hX dL_law_789 ?_
  refine g_sld hX hs dL_law_790 hN (by omega) ?_
  refine g_callQ (segs := lawS D q ad im w u fi pc rh vv (nI s) sgI sgF sz t nx cl fn fa v ev c_Wr c_Bo c_Bt c_Bs ir iv iss ik wl w pc kp (nI s) iss t sz fa bo bt bs wr qn cn pa fl lo ln mwl) (fun ugh => match ugh with | (m_V, m_Bo, m_Bt, m_Bs, m_Wr) => [gsM0 D q pc kp (nI s) sz fa m_Wr pa fl ln, gsMw D q w, gsMb D q m_Bo m_Bt m_Bs]) [16, 17, 20] [0, 1, 2, 3, 4, 5, 6, 7, 8, 9, 10, 11, 12, 13, 14, 15, 18, 19, 21, 22, 23, 24] hX dL_law_791 cw_L_94 (ct_X7_write (l := l) (D := D) (a0 := (q 40)) (a1 := (q 41)) (a2 := (q 42)) (a3 := (q 43)) (a4 := (q 44)) (a5 := (q 45)) (a6 := (q 46)) (a7 := (q 47)) (a8 := (q 48)) (a9 := (q 49)) (a10 := (q 50)) (uk := pc) (sz := sz) (wr := wr) (pa := pa) (fl := fl) (ln := ln) (kp := kp) (sd := (nI s)) (fa := fa) (w := w) (bo := bo) (bt := bt) (bs := bs) (c := (xs (i + 1))) (d := (xs (i + 2))) (g := (xs (i + 3))) hwr) 0 8 rfl (show ([16, 17, 20] ++ [0, 1, 2, 3, 4, 5, 6, 7, 8, 9, 10, 11, 12, 13, 14, 15, 18, 19, 21, 22, 23, 24] : List Nat).Perm (List.range 25) by decide) rfl rfl rfl rfl (fun ⟨_, _, _, _, _⟩ => rfl) (fun ⟨_, _, _, _, _⟩ => rfl) (fun ⟨_, _, _, _, _⟩ => rfl) ⟨by omega, by omega⟩ (Nat.le_of_ble_eq_true rfl) ⟨by omega, by omega⟩ (fun vgh ugh hp => ?_)
  obtain ⟨m_V, m_Bo, m_Bt, m_Bs, m_Wr⟩ := ugh
  obtain ⟨rfl, m_hv⟩ := hp
  show G X Q (lawS D q ad im w u fi pc rh vv (nI s) sgI sgF sz t nx cl fn fa v ev c_Wr c_Bo c_Bt c_Bs ir iv iss ik wl w pc kp (nI s) iss t sz fa m_Bo m_Bt m_Bs m_Wr qn cn pa fl lo ln mwl).flatten (ce + 0 + 0) (sl + 0 + 0) 794 [some (.ref b), some (.ref (q 0)), some (.ref (q 40)), some (.int (nI i))] [.int m_V, .int c_V]
  have hj := c_hv.trans m_hv.symm
  have hz := write_ok hwr c_hv
  injection hj with e1 hj
  injection hj with e2 hj
  injection hj with e3 hj
  injection hj with e4 e5
  subst e1 e2 e3 e4 e5
  refine g_icmp_eq (tgt := 881) hX dL_law_794 (by decide) (fun _ => ?_) (fun h => absurd rfl h)
  exact kk w u fi pc rh vv s sgI sgF sz t nx cl fn fa v ev c_Wr c_Bo c_Bt c_Bs ir iv iss ik wl kp qn cn pa fl lo ln mwl _ _ (by omega) (by omega) (by omega) ⟨hc, him, hsg, hsz, ht, hz, hss⟩
set_option maxRecDepth 100000 in
set_option maxHeartbeats 4000000 in
theorem lop_tear {X : CT} {l : Launch} {D : va_G} {nm : String} {rt : Option FieldType} {rf rl mc ms : Nat} {Q : State → Prop} {b N i ce sl : Nat} {xs : Nat → Int32} {q ad im : Nat → Nat} {w : Nat → Int32} {u fi pc : Nat} {rh : Nat → Nat → Int32} {vv : Nat → Int32} {s : Nat} {sgI : Nat → Int32} {sgF : Nat → Nat → Int32} {sz : Nat} {t : Nat → Nat} {nx cl fn fa : Int32} {v : Nat → Int32} {ev : Int32} {wr : Nat} {bo bt bs : Nat → Int32} {ir : Nat → Nat → Int32} {iv iss ik wl : Nat → Int32} {kp : Int32} {qn cn : Nat → Int32} {pa fl : Nat} {lo : Nat → Int32} {ln : Nat} {mwl : Nat → Int32} (hX : CX X l D RL nm cL_law 4 rt rf rl mc ms) (hs : SX X b N xs) (hN : N < 2147483648) (hi : i + 7 ≤ N) (hrm : 40 ≤ rf ∧ 2000 ≤ rl) (hcs : ce + 2 ≤ mc ∧ sl + 20 ≤ ms) (hu : u < 1000000) (hI : LInv w u fi pc rh s sgI sgF sz t wr kp ir iss ik) (kk : Nxt X Q D q ad im b i u ce sl) : G X Q (lawC D q ad im w u fi pc rh vv s sgI sgF sz t nx cl fn fa v ev wr bo bt bs ir iv iss ik wl kp qn cn pa fl lo ln mwl) ce sl 799 [some (.ref b), some (.ref (q 0)), some (.ref (q 40)), some (.int (nI i))] [] := by
  obtain ⟨hc, him, hsg, hsz, ht, hwr, hss⟩ := hI
  show G X Q (lawS D q ad im w u fi pc rh vv (nI s) sgI sgF sz t nx cl fn fa v ev wr bo bt bs ir iv iss ik wl w pc kp (nI s) iss t sz fa bo bt bs wr qn cn pa fl lo ln mwl).flatten ce sl 799 [some (.ref b), some (.ref (q 0)), some (.ref (q 40)), some (.int (nI i))] []
  have hrow : rowOK w := hc.row
  have hsr := hsg
  obtain ⟨o, ho2, ho⟩ := hrow.2.2.2.2.1
  refine g_aload_n hX dL_law_799 rfl ?_
  refine g_callQ (segs := lawS D q ad im w u fi pc rh vv (nI s) sgI sgF sz t nx cl fn fa v ev wr bo bt bs ir iv iss ik wl w pc kp (nI s) iss t sz fa bo bt bs wr qn cn pa fl lo ln mwl) (fun (_ : Unit) => [gsT D q (nI s), gsB0 D q 0]) [7, 12] [0, 1, 2, 3, 4, 5, 6, 8, 9, 10, 11, 13, 14, 15, 16, 17, 18, 19, 20, 21, 22, 23, 24] hX dL_law_800 cw_L_95 (ct_X6_tear (l := l) (D := D) (z0 := (q 0)) (s0 := (q 1)) (v0 := (q 6)) (d0 := (q 16)) (y0 := (q 23)) (b0 := (q 25)) (b1 := (q 26)) (b2 := (q 27)) (b3 := (q 28)) (i0 := (q 29)) (i1 := (q 30)) (i2 := (q 31)) (i3 := (q 32)) (sd := (nI s)) (wr := wr) ) 0 7 rfl (show ([7, 12] ++ [0, 1, 2, 3, 4, 5, 6, 8, 9, 10, 11, 13, 14, 15, 16, 17, 18, 19, 20, 21, 22, 23, 24] : List Nat).Perm (List.range 25) by decide) rfl rfl rfl rfl (fun _ => rfl) (fun _ => rfl) (fun _ => rfl) ⟨by omega, by omega⟩ (Nat.le_of_ble_eq_true rfl) ⟨by omega, by omega⟩ (fun vgh ugh hp => ?_)
  obtain rfl := hp
  show G X Q (lawS D q ad im w u fi pc rh vv (nI s) sgI sgF sz t nx cl fn fa v ev 0 bo bt bs ir iv iss ik wl w pc kp (nI s) iss t sz fa bo bt bs wr qn cn pa fl lo ln mwl).flatten (ce + 0) (sl + 0) 803 [some (.ref b), some (.ref (q 0)), some (.ref (q 40)), some (.int (nI i))] [.int (nI wr)]
  refine g_aload_n hX dL_law_803 rfl ?_
  refine g_callQ (segs := lawS D q ad im w u fi pc rh vv (nI s) sgI sgF sz t nx cl fn fa v ev 0 bo bt bs ir iv iss ik wl w pc kp (nI s) iss t sz fa bo bt bs wr qn cn pa fl lo ln mwl) (fun (_ : Unit) => [gsM0 D q pc kp (nI s) sz fa 0 pa fl ln]) [16] [0, 1, 2, 3, 4, 5, 6, 7, 8, 9, 10, 11, 12, 13, 14, 15, 17, 18, 19, 20, 21, 22, 23, 24] hX dL_law_804 cw_L_98 (ct_X7_tear (l := l) (D := D) (a0 := (q 40)) (a1 := (q 41)) (a2 := (q 42)) (a3 := (q 43)) (a4 := (q 44)) (a5 := (q 45)) (a6 := (q 46)) (a7 := (q 47)) (a8 := (q 48)) (a9 := (q 49)) (a10 := (q 50)) (uk := pc) (sz := sz) (wr := wr) (pa := pa) (fl := fl) (ln := ln) (kp := kp) (sd := (nI s)) (fa := fa) ) 0 8 rfl (show ([16] ++ [0, 1, 2, 3, 4, 5, 6, 7, 8, 9, 10, 11, 12, 13, 14, 15, 17, 18, 19, 20, 21, 22, 23, 24] : List Nat).Perm (List.range 25) by decide) rfl rfl rfl rfl (fun _ => rfl) (fun _ => rfl) (fun _ => rfl) ⟨by omega, by omega⟩ (Nat.le_of_ble_eq_true rfl) ⟨by omega, by omega⟩ (fun vgh ugh hp => ?_)
  obtain rfl := hp
  show G X Q (lawS D q ad im w u fi pc rh vv (nI s) sgI sgF sz t nx cl fn fa v ev 0 bo bt bs ir iv iss ik wl w pc kp (nI s) iss t sz fa bo bt bs 0 qn cn pa fl lo ln mwl).flatten (ce + 0 + 0) (sl + 0 + 0) 807 [some (.ref b), some (.ref (q 0)), some (.ref (q 40)), some (.int (nI i))] [.int (nI wr), .int (nI wr)]
  refine g_icmp_eq (tgt := 881) hX dL_law_807 (by decide) (fun _ => ?_) (fun h => absurd rfl h)
  exact kk w u fi pc rh vv s sgI sgF sz t nx cl fn fa v ev 0 bo bt bs ir iv iss ik wl kp qn cn pa fl lo ln mwl _ _ (by omega) (by omega) (by omega) ⟨hc, him, hsg, hsz, ht, Nat.zero_le _, hss⟩
set_option maxRecDepth 100000 in
set_option maxHeartbeats 4000000 in
theorem lop_seed {X : CT} {l : Launch} {D : va_G} {nm : String} {rt : Option FieldType} {rf rl mc ms : Nat} {Q : State → Prop} {b N i ce sl : Nat} {xs : Nat → Int32} {q ad im : Nat → Nat} {w : Nat → Int32} {u fi pc : Nat} {rh : Nat → Nat → Int32} {vv : Nat → Int32} {s : Nat} {sgI : Nat → Int32} {sgF : Nat → Nat → Int32} {sz : Nat} {t : Nat → Nat} {nx cl fn fa : Int32} {v : Nat → Int32} {ev : Int32} {wr : Nat} {bo bt bs : Nat → Int32} {ir : Nat → Nat → Int32} {iv iss ik wl : Nat → Int32} {kp : Int32} {qn cn : Nat → Int32} {pa fl : Nat} {lo : Nat → Int32} {ln : Nat} {mwl : Nat → Int32} (hX : CX X l D RL nm cL_law 4 rt rf rl mc ms) (hs : SX X b N xs) (hN : N < 2147483648) (hi : i + 7 ≤ N) (hrm : 40 ≤ rf ∧ 2000 ≤ rl) (hcs : ce + 2 ≤ mc ∧ sl + 20 ≤ ms) (hu : u < 1000000) (hI : LInv w u fi pc rh s sgI sgF sz t wr kp ir iss ik) (kk : Nxt X Q D q ad im b i u ce sl) : G X Q (lawC D q ad im w u fi pc rh vv s sgI sgF sz t nx cl fn fa v ev wr bo bt bs ir iv iss ik wl kp qn cn pa fl lo ln mwl) ce sl 812 [some (.ref b), some (.ref (q 0)), some (.ref (q 40)), some (.int (nI i))] [] := by
  obtain ⟨hc, him, hsg, hsz, ht, hwr, hss⟩ := hI
  show G X Q (lawS D q ad im w u fi pc rh vv (nI s) sgI sgF sz t nx cl fn fa v ev wr bo bt bs ir iv iss ik wl w pc kp (nI s) iss t sz fa bo bt bs wr qn cn pa fl lo ln mwl).flatten ce sl 812 [some (.ref b), some (.ref (q 0)), some (.ref (q 40)), some (.int (nI i))] []
  have hrow : rowOK w := hc.row
  have hsr := hsg
  obtain ⟨o, ho2, ho⟩ := hrow.2.2.2.2.1
  refine g_aload_n hX dL_law_812 rfl ?_
  refine g_aload_n hX dL_law_813 rfl ?_
  refine g_iload_n hX dL_law_814 rfl ?_
  refine g_iconst hX dL_law_815 kn_i_1 ?_
  refine g_iaddN hX dL_law_816 ?_
  refine g_sld hX hs dL_law_817 hN (by omega) ?_
  refine g_callQ (segs := lawS D q ad im w u fi pc rh vv (nI s) sgI sgF sz t nx cl fn fa v ev wr bo bt bs ir iv iss ik wl w pc kp (nI s) iss t sz fa bo bt bs wr qn cn pa fl lo ln mwl) (fun ugh => match ugh with | (c_V, c_S2) => [gsT D q c_S2]) [7] [0, 1, 2, 3, 4, 5, 6, 8, 9, 10, 11, 12, 13, 14, 15, 16, 17, 18, 19, 20, 21, 22, 23, 24] hX dL_law_818 cw_L_99 (ct_X6_seed (l := l) (D := D) (z0 := (q 0)) (s0 := (q 1)) (v0 := (q 6)) (d0 := (q 16)) (y0 := (q 23)) (b0 := (q 25)) (i0 := (q 29)) (i1 := (q 30)) (i2 := (q 31)) (i3 := (q 32)) (sd := (nI s)) (x := (xs (i + 1))) ) 0 7 rfl (show ([7] ++ [0, 1, 2, 3, 4, 5, 6, 8, 9, 10, 11, 12, 13, 14, 15, 16, 17, 18, 19, 20, 21, 22, 23, 24] : List Nat).Perm (List.range 25) by decide) rfl rfl rfl rfl (fun ⟨_, _⟩ => rfl) (fun ⟨_, _⟩ => rfl) (fun ⟨_, _⟩ => rfl) ⟨by omega, by omega⟩ (Nat.le_of_ble_eq_true rfl) ⟨by omega, by omega⟩ (fun vgh ugh hp => ?_)
  obtain ⟨c_V, c_S2⟩ := ugh
  obtain ⟨rfl, c_hv⟩ := hp
  show G X Q (lawS D q ad im w u fi pc rh vv c_S2 sgI sgF sz t nx cl fn fa v ev wr bo bt bs ir iv iss ik wl w pc kp (nI s) iss t sz fa bo bt bs wr qn cn pa fl lo ln mwl).flatten (ce + 0) (sl + 0) 821 [some (.ref b), some (.ref (q 0)), some (.ref (q 40)), some (.int (nI i))] [.int c_V]
  refine g_aload_n hX dL_law_821 rfl ?_
  refine g_aload_n hX dL_law_822 rfl ?_
  refine g_iload_n hX dL_law_823 rfl ?_
  refine g_iconst hX dL_law_824 kn_i_1 ?_
  refine g_iaddN hX dL_law_825 ?_
  refine g_sld hX hs dL_law_826 hN (by omega) ?_
  refine g_callQ (segs := lawS D q ad im w u fi pc rh vv c_S2 sgI sgF sz t nx cl fn fa v ev wr bo bt bs ir iv iss ik wl w pc kp (nI s) iss t sz fa bo bt bs wr qn cn pa fl lo ln mwl) (fun ugh => match ugh with | (m_V, m_S) => [gsM0 D q pc kp m_S sz fa wr pa fl ln]) [16] [0, 1, 2, 3, 4, 5, 6, 7, 8, 9, 10, 11, 12, 13, 14, 15, 17, 18, 19, 20, 21, 22, 23, 24] hX dL_law_827 cw_L_102 (ct_X7_seed (l := l) (D := D) (a0 := (q 40)) (a1 := (q 41)) (a2 := (q 42)) (a3 := (q 43)) (a4 := (q 44)) (a5 := (q 45)) (a6 := (q 46)) (a7 := (q 47)) (a8 := (q 48)) (a9 := (q 49)) (a10 := (q 50)) (uk := pc) (sz := sz) (wr := wr) (pa := pa) (fl := fl) (ln := ln) (kp := kp) (sd := (nI s)) (fa := fa) (x := (xs (i + 1))) ) 0 8 rfl (show ([16] ++ [0, 1, 2, 3, 4, 5, 6, 7, 8, 9, 10, 11, 12, 13, 14, 15, 17, 18, 19, 20, 21, 22, 23, 24] : List Nat).Perm (List.range 25) by decide) rfl rfl rfl rfl (fun ⟨_, _⟩ => rfl) (fun ⟨_, _⟩ => rfl) (fun ⟨_, _⟩ => rfl) ⟨by omega, by omega⟩ (Nat.le_of_ble_eq_true rfl) ⟨by omega, by omega⟩ (fun vgh ugh hp => ?_)
  obtain ⟨m_V, m_S⟩ := ugh
  obtain ⟨rfl, m_hv⟩ := hp
  show G X Q (lawS D q ad im w u fi pc rh vv c_S2 sgI sgF sz t nx cl fn fa v ev wr bo bt bs ir iv iss ik wl w pc kp m_S iss t sz fa bo bt bs wr qn cn pa fl lo ln mwl).flatten (ce + 0 + 0) (sl + 0 + 0) 830 [some (.ref b), some (.ref (q 0)), some (.ref (q 40)), some (.int (nI i))] [.int m_V, .int c_V]
  have hj := c_hv.trans m_hv.symm
  injection hj with e1 e2
  obtain ⟨s9, hs9, es9⟩ := seed_ok hss c_hv
  subst e1 e2 es9
  refine g_icmp_eq (tgt := 881) hX dL_law_830 (by decide) (fun _ => ?_) (fun h => absurd rfl h)
  exact kk w u fi pc rh vv s9 sgI sgF sz t nx cl fn fa v ev wr bo bt bs ir iv iss ik wl kp qn cn pa fl lo ln mwl _ _ (by omega) (by omega) (by omega) ⟨hc, him, hsg, hsz, ht, hwr, hs9⟩
set_option maxRecDepth 100000 in
set_option maxHeartbeats 4000000 in
theorem lop_keep {X : CT} {l : Launch} {D : va_G} {nm : String} {rt : Option FieldType} {rf rl mc ms : Nat} {Q : State → Prop} {b N i ce sl : Nat} {xs : Nat → Int32} {q ad im : Nat → Nat} {w : Nat → Int32} {u fi pc : Nat} {rh : Nat → Nat → Int32} {vv : Nat → Int32} {s : Nat} {sgI : Nat → Int32} {sgF : Nat → Nat → Int32} {sz : Nat} {t : Nat → Nat} {nx cl fn fa : Int32} {v : Nat → Int32} {ev : Int32} {wr : Nat} {bo bt bs : Nat → Int32} {ir : Nat → Nat → Int32} {iv iss ik wl : Nat → Int32} {kp : Int32} {qn cn : Nat → Int32} {pa fl : Nat} {lo : Nat → Int32} {ln : Nat} {mwl : Nat → Int32} (hX : CX X l D RL nm cL_law 4 rt rf rl mc ms) (hs : SX X b N xs) (hN : N < 2147483648) (hi : i + 7 ≤ N) (hrm : 40 ≤ rf ∧ 2000 ≤ rl) (hcs : ce + 2 ≤ mc ∧ sl + 20 ≤ ms) (hu : u < 1000000) (hI : LInv w u fi pc rh s sgI sgF sz t wr kp ir iss ik) (kk : Nxt X Q D q ad im b i u ce sl) : G X Q (lawC D q ad im w u fi pc rh vv s sgI sgF sz t nx cl fn fa v ev wr bo bt bs ir iv iss ik wl kp qn cn pa fl lo ln mwl) ce sl 835 [some (.ref b), some (.ref (q 0)), some (.ref (q 40)), some (.int (nI i))] [] := by
  obtain ⟨hc, him, hsg, hsz, ht, hwr, hss⟩ := hI
  show G X Q (lawS D q ad im w u fi pc rh vv (nI s) sgI sgF sz t nx cl fn fa v ev wr bo bt bs ir iv iss ik wl w pc kp (nI s) iss t sz fa bo bt bs wr qn cn pa fl lo ln mwl).flatten ce sl 835 [some (.ref b), some (.ref (q 0)), some (.ref (q 40)), some (.int (nI i))] []
  have hrow : rowOK w := hc.row
  have hsr := hsg
  obtain ⟨o, ho2, ho⟩ := hrow.2.2.2.2.1
  refine g_aload_n hX dL_law_835 rfl ?_
  refine g_aload_n hX dL_law_836 rfl ?_
  refine g_iload_n hX dL_law_837 rfl ?_
  refine g_iconst hX dL_law_838 kn_i_1 ?_
  refine g_iaddN hX dL_law_839 ?_
  refine g_sld hX hs dL_law_840 hN (by omega) ?_
  refine g_callQ (segs := lawS D q ad im w u fi pc rh vv (nI s) sgI sgF sz t nx cl fn fa v ev wr bo bt bs ir iv iss ik wl w pc kp (nI s) iss t sz fa bo bt bs wr qn cn pa fl lo ln mwl) (fun ugh => match ugh with | (c_V, c_ir2, c_iv2, c_is2, c_ik2, c_c2) => [gsT D q (nI s), gsN0 D q w u, gsNE D q w, gsNB D q w, gsNT D q w, gsNG D q w, gsP0 D q fi c_c2, gsIM D q im c_ir2 c_iv2 c_is2 c_ik2]) [7, 2, 3, 4, 5, 6, 0, 14] [1, 8, 9, 10, 11, 12, 13, 15, 16, 17, 18, 19, 20, 21, 22, 23, 24] hX dL_law_841 cw_L_103 (ct_X6_keep (l := l) (D := D) (z0 := (q 0)) (s0 := (q 1)) (s1 := (q 2)) (s2 := (q 3)) (s3 := (q 4)) (s4 := (q 5)) (v0 := (q 6)) (d0 := (q 16)) (y0 := (q 23)) (y1 := (q 24)) (b0 := (q 25)) (i0 := (q 29)) (i1 := (q 30)) (i2 := (q 31)) (i3 := (q 32)) (u := u) (r := w) (sd := (nI s)) (im := im) (ir := ir) (iv := iv) (iss := iss) (ik := ik) (fi := fi) (pc := pc) (kx := (xs (i + 1))) ) 0 7 rfl (show ([7, 2, 3, 4, 5, 6, 0, 14] ++ [1, 8, 9, 10, 11, 12, 13, 15, 16, 17, 18, 19, 20, 21, 22, 23, 24] : List Nat).Perm (List.range 25) by decide) rfl rfl rfl rfl (fun ⟨_, _, _, _, _, _⟩ => rfl) (fun ⟨_, _, _, _, _, _⟩ => rfl) (fun ⟨_, _, _, _, _, _⟩ => rfl) ⟨by omega, by omega⟩ (Nat.le_of_ble_eq_true rfl) ⟨by omega, by omega⟩ (fun vgh ugh hp => ?_)
  obtain ⟨c_V, c_ir2, c_iv2, c_is2, c_ik2, c_c2⟩ := ugh
  obtain ⟨rfl, c_hv⟩ := hp
  show G X Q (lawS D q ad im w u fi c_c2 rh vv (nI s) sgI sgF sz t nx cl fn fa v ev wr bo bt bs c_ir2 c_iv2 c_is2 c_ik2 wl w pc kp (nI s) iss t sz fa bo bt bs wr qn cn pa fl lo ln mwl).flatten (ce + 0) (sl + 0) 844 [some (.ref b), some (.ref (q 0)), some (.ref (q 40)), some (.int (nI i))] [.int c_V]
  refine g_aload_n hX dL_law_844 rfl ?_
  refine g_aload_n hX dL_law_845 rfl ?_
  refine g_iload_n hX dL_law_846 rfl ?_
  refine g_iconst hX dL_law_847 kn_i_1 ?_
  refine g_iaddN hX dL_law_848 ?_
  refine g_sld hX hs dL_law_849 hN (by omega) ?_
  refine g_callQ (segs := lawS D q ad im w u fi c_c2 rh vv (nI s) sgI sgF sz t nx cl fn fa v ev wr bo bt bs c_ir2 c_iv2 c_is2 c_ik2 wl w pc kp (nI s) iss t sz fa bo bt bs wr qn cn pa fl lo ln mwl) (fun ugh => match ugh with | (m_V, m_W, m_Is, m_Kp, m_U) => [gsM0 D q m_U m_Kp (nI s) sz fa wr pa fl ln, gsMw D q m_W, gsMi D q m_Is]) [16, 17, 18] [0, 1, 2, 3, 4, 5, 6, 7, 8, 9, 10, 11, 12, 13, 14, 15, 19, 20, 21, 22, 23, 24] hX dL_law_850 cw_L_106 (ct_X7_keep (l := l) (D := D) (a0 := (q 40)) (a1 := (q 41)) (a2 := (q 42)) (a3 := (q 43)) (a4 := (q 44)) (a5 := (q 45)) (a6 := (q 46)) (a7 := (q 47)) (a8 := (q 48)) (a9 := (q 49)) (a10 := (q 50)) (uk := pc) (sz := sz) (wr := wr) (pa := pa) (fl := fl) (ln := ln) (kp := kp) (sd := (nI s)) (fa := fa) (w := w) (isd := iss) (k := (xs (i + 1))) ) 0 8 rfl (show ([16, 17, 18] ++ [0, 1, 2, 3, 4, 5, 6, 7, 8, 9, 10, 11, 12, 13, 14, 15, 19, 20, 21, 22, 23, 24] : List Nat).Perm (List.range 25) by decide) rfl rfl rfl rfl (fun ⟨_, _, _, _, _⟩ => rfl) (fun ⟨_, _, _, _, _⟩ => rfl) (fun ⟨_, _, _, _, _⟩ => rfl) ⟨by omega, by omega⟩ (Nat.le_of_ble_eq_true rfl) ⟨by omega, by omega⟩ (fun vgh ugh hp => ?_)
  obtain ⟨m_V, m_W, m_Is, m_Kp, m_U⟩ := ugh
  obtain ⟨rfl, m_hv⟩ := hp
  show G X Q (lawS D q ad im w u fi c_c2 rh vv (nI s) sgI sgF sz t nx cl fn fa v ev wr bo bt bs c_ir2 c_iv2 c_is2 c_ik2 wl m_W m_U m_Kp (nI s) m_Is t sz fa bo bt bs wr qn cn pa fl lo ln mwl).flatten (ce + 0 + 0) (sl + 0 + 0) 853 [some (.ref b), some (.ref (q 0)), some (.ref (q 40)), some (.int (nI i))] [.int m_V, .int c_V]
  obtain ⟨hV, hIs, hU, hag, hco, him2⟩ := op_keep hc him hss c_hv m_hv
  subst hV hIs hU
  refine g_icmp_eq (tgt := 881) hX dL_law_853 (by decide) (fun _ => ?_) (fun h => absurd rfl h)
  rw [show lawS D q ad im w u fi m_U rh vv (nI s) sgI sgF sz t nx cl fn fa v ev wr bo bt bs c_ir2 c_iv2 m_Is c_ik2 wl m_W m_U m_Kp (nI s) m_Is t sz fa bo bt bs wr qn cn pa fl lo ln mwl = lawS D q ad im m_W u fi m_U rh vv (nI s) sgI sgF sz t nx cl fn fa v ev wr bo bt bs c_ir2 c_iv2 m_Is c_ik2 wl m_W m_U m_Kp (nI s) m_Is t sz fa bo bt bs wr qn cn pa fl lo ln mwl from lawS_r D hag]
  exact kk m_W u fi m_U rh vv s sgI sgF sz t nx cl fn fa v ev wr bo bt bs c_ir2 c_iv2 m_Is c_ik2 wl m_Kp qn cn pa fl lo ln mwl _ _ (by omega) (by omega) (by omega) ⟨hco, him2, sgP_c hag hsg, hsz, ht, hwr, hss⟩
set_option maxRecDepth 100000 in
set_option maxHeartbeats 4000000 in
theorem lop_goBack {X : CT} {l : Launch} {D : va_G} {nm : String} {rt : Option FieldType} {rf rl mc ms : Nat} {Q : State → Prop} {b N i ce sl : Nat} {xs : Nat → Int32} {q ad im : Nat → Nat} {w : Nat → Int32} {u fi pc : Nat} {rh : Nat → Nat → Int32} {vv : Nat → Int32} {s : Nat} {sgI : Nat → Int32} {sgF : Nat → Nat → Int32} {sz : Nat} {t : Nat → Nat} {nx cl fn fa : Int32} {v : Nat → Int32} {ev : Int32} {wr : Nat} {bo bt bs : Nat → Int32} {ir : Nat → Nat → Int32} {iv iss ik wl : Nat → Int32} {kp : Int32} {qn cn : Nat → Int32} {pa fl : Nat} {lo : Nat → Int32} {ln : Nat} {mwl : Nat → Int32} (hX : CX X l D RL nm cL_law 4 rt rf rl mc ms) (hs : SX X b N xs) (hN : N < 2147483648) (hi : i + 7 ≤ N) (hrm : 40 ≤ rf ∧ 2000 ≤ rl) (hcs : ce + 2 ≤ mc ∧ sl + 20 ≤ ms) (hu : u < 1000000) (hI : LInv w u fi pc rh s sgI sgF sz t wr kp ir iss ik) (kk : Nxt X Q D q ad im b i u ce sl) : G X Q (lawC D q ad im w u fi pc rh vv s sgI sgF sz t nx cl fn fa v ev wr bo bt bs ir iv iss ik wl kp qn cn pa fl lo ln mwl) ce sl 858 [some (.ref b), some (.ref (q 0)), some (.ref (q 40)), some (.int (nI i))] [] := by
  obtain ⟨hc, him, hsg, hsz, ht, hwr, hss⟩ := hI
  show G X Q (lawS D q ad im w u fi pc rh vv (nI s) sgI sgF sz t nx cl fn fa v ev wr bo bt bs ir iv iss ik wl w pc kp (nI s) iss t sz fa bo bt bs wr qn cn pa fl lo ln mwl).flatten ce sl 858 [some (.ref b), some (.ref (q 0)), some (.ref (q 40)), some (.int (nI i))] []
  have hrow : rowOK w := hc.row
  have hsr := hsg
  obtain ⟨o, ho2, ho⟩ := hrow.2.2.2.2.1
  refine g_aload_n hX dL_law_858 rfl ?_
  refine g_aload_n hX dL_law_859 rfl ?_
  refine g_iload_n hX dL_law_860 rfl ?_
  refine g_iconst hX dL_law_861 kn_i_1 ?_
  refine g_iaddN hX dL_law_862 ?_
  refine g_sld hX hs dL_law_863 hN (by omega) ?_
  refine g_callQ (segs := lawS D q ad im w u fi pc rh vv (nI s) sgI sgF sz t nx cl fn fa v ev wr bo bt bs ir iv iss ik wl w pc kp (nI s) iss t sz fa bo bt bs wr qn cn pa fl lo ln mwl) (fun ugh => match ugh with | (c_V, c_r2, c_u2, c_S2, c_c2) => [gsT D q c_S2, gsN0 D q c_r2 c_u2, gsNE D q c_r2, gsNB D q c_r2, gsNT D q c_r2, gsNG D q c_r2, gsP0 D q fi c_c2, gsIM D q im ir iv iss ik]) [7, 2, 3, 4, 5, 6, 0, 14] [1, 8, 9, 10, 11, 12, 13, 15, 16, 17, 18, 19, 20, 21, 22, 23, 24] hX dL_law_864 cw_L_107 (ct_X6_goBack (l := l) (D := D) (z0 := (q 0)) (s0 := (q 1)) (s1 := (q 2)) (s2 := (q 3)) (s3 := (q 4)) (s4 := (q 5)) (v0 := (q 6)) (d0 := (q 16)) (y0 := (q 23)) (y1 := (q 24)) (b0 := (q 25)) (i0 := (q 29)) (i1 := (q 30)) (i2 := (q 31)) (i3 := (q 32)) (u := u) (r := w) (sd := (nI s)) (im := im) (ir := ir) (iv := iv) (iss := iss) (ik := ik) (fi := fi) (pc := pc) (kx := (xs (i + 1))) ) 0 7 rfl (show ([7, 2, 3, 4, 5, 6, 0, 14] ++ [1, 8, 9, 10, 11, 12, 13, 15, 16, 17, 18, 19, 20, 21, 22, 23, 24] : List Nat).Perm (List.range 25) by decide) rfl rfl rfl rfl (fun ⟨_, _, _, _, _⟩ => rfl) (fun ⟨_, _, _, _, _⟩ => rfl) (fun ⟨_, _, _, _, _⟩ => rfl) ⟨by omega, by omega⟩ (Nat.le_of_ble_eq_true rfl) ⟨by omega, by omega⟩ (fun vgh ugh hp => ?_)
  obtain ⟨c_V, c_r2, c_u2, c_S2, c_c2⟩ := ugh
  obtain ⟨rfl, c_hv⟩ := hp
  show G X Q (lawS D q ad im c_r2 c_u2 fi c_c2 rh vv c_S2 sgI sgF sz t nx cl fn fa v ev wr bo bt bs ir iv iss ik wl w pc kp (nI s) iss t sz fa bo bt bs wr qn cn pa fl lo ln mwl).flatten (ce + 0) (sl + 0) 867 [some (.ref b), some (.ref (q 0)), some (.ref (q 40)), some (.int (nI i))] [.int c_V]
  refine g_aload_n hX dL_law_867 rfl ?_
  refine g_aload_n hX dL_law_868 rfl ?_
  refine g_iload_n hX dL_law_869 rfl ?_
  refine g_iconst hX dL_law_870 kn_i_1 ?_
  refine g_iaddN hX dL_law_871 ?_
  refine g_sld hX hs dL_law_872 hN (by omega) ?_
  refine g_callQ (segs := lawS D q ad im c_r2 c_u2 fi c_c2 rh vv c_S2 sgI sgF sz t nx cl fn fa v ev wr bo bt bs ir iv iss ik wl w pc kp (nI s) iss t sz fa bo bt bs wr qn cn pa fl lo ln mwl) (fun ugh => match ugh with | (m_V, m_W, m_S, m_U) => [gsM0 D q m_U kp m_S sz fa wr pa fl ln, gsMw D q m_W, gsMi D q iss]) [16, 17, 18] [0, 1, 2, 3, 4, 5, 6, 7, 8, 9, 10, 11, 12, 13, 14, 15, 19, 20, 21, 22, 23, 24] hX dL_law_873 cw_L_110 (ct_X7_goBack (l := l) (D := D) (a0 := (q 40)) (a1 := (q 41)) (a2 := (q 42)) (a3 := (q 43)) (a4 := (q 44)) (a5 := (q 45)) (a6 := (q 46)) (a7 := (q 47)) (a8 := (q 48)) (a9 := (q 49)) (a10 := (q 50)) (uk := pc) (sz := sz) (wr := wr) (pa := pa) (fl := fl) (ln := ln) (kp := kp) (sd := (nI s)) (fa := fa) (w := w) (isd := iss) (k := (xs (i + 1))) ) 0 8 rfl (show ([16, 17, 18] ++ [0, 1, 2, 3, 4, 5, 6, 7, 8, 9, 10, 11, 12, 13, 14, 15, 19, 20, 21, 22, 23, 24] : List Nat).Perm (List.range 25) by decide) rfl rfl rfl rfl (fun ⟨_, _, _, _⟩ => rfl) (fun ⟨_, _, _, _⟩ => rfl) (fun ⟨_, _, _, _⟩ => rfl) ⟨by omega, by omega⟩ (Nat.le_of_ble_eq_true rfl) ⟨by omega, by omega⟩ (fun vgh ugh hp => ?_)
  obtain ⟨m_V, m_W, m_S, m_U⟩ := ugh
  obtain ⟨rfl, m_hv⟩ := hp
  show G X Q (lawS D q ad im c_r2 c_u2 fi c_c2 rh vv c_S2 sgI sgF sz t nx cl fn fa v ev wr bo bt bs ir iv iss ik wl m_W m_U kp m_S iss t sz fa bo bt bs wr qn cn pa fl lo ln mwl).flatten (ce + 0 + 0) (sl + 0 + 0) 876 [some (.ref b), some (.ref (q 0)), some (.ref (q 40)), some (.int (nI i))] [.int m_V, .int c_V]
  obtain ⟨⟨hV, hU, hag, hco, hwi, hve⟩, hSS, s9, hs9, es9⟩ := op_goBack hc him hss c_hv m_hv
  subst hV hU hSS es9
  refine g_icmp_eq (tgt := 881) hX dL_law_876 (by decide) (fun _ => ?_) (fun h => absurd rfl h)
  rw [show lawS D q ad im c_r2 c_u2 fi m_U rh vv (nI s9) sgI sgF sz t nx cl fn fa v ev wr bo bt bs ir iv iss ik wl m_W m_U kp (nI s9) iss t sz fa bo bt bs wr qn cn pa fl lo ln mwl = lawS D q ad im m_W c_u2 fi m_U rh vv (nI s9) sgI sgF sz t nx cl fn fa v ev wr bo bt bs ir iv iss ik wl m_W m_U kp (nI s9) iss t sz fa bo bt bs wr qn cn pa fl lo ln mwl from lawS_r D hag]
  exact kk m_W c_u2 fi m_U rh vv s9 sgI sgF sz t nx cl fn fa v ev wr bo bt bs ir iv iss ik wl kp qn cn pa fl lo ln mwl _ _ (by rcases hve with h | h <;> omega) (by omega) (by omega) ⟨hco, him.next hwi, sg_step hsg hve hu, hsz, ht, hwr, hs9⟩
