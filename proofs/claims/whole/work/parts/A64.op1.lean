set_option maxRecDepth 100000 in
set_option maxHeartbeats 4000000 in
theorem lop_feed {X : CT} {l : Launch} {D : va_G} {nm : String} {rt : Option FieldType} {rf rl mc ms : Nat} {Q : State → Prop} {b N i ce sl : Nat} {xs : Nat → Int32} {q ad im : Nat → Nat} {w : Nat → Int32} {u fi pc : Nat} {rh : Nat → Nat → Int32} {vv : Nat → Int32} {s : Nat} {sgI : Nat → Int32} {sgF : Nat → Nat → Int32} {sz : Nat} {t : Nat → Nat} {nx cl fn fa : Int32} {v : Nat → Int32} {ev : Int32} {wr : Nat} {bo bt bs : Nat → Int32} {ir : Nat → Nat → Int32} {iv iss ik wl : Nat → Int32} {kp : Int32} {qn cn : Nat → Int32} {pa fl : Nat} {lo : Nat → Int32} {ln : Nat} {mwl : Nat → Int32} (hX : CX X l D RL nm cL_law 4 rt rf rl mc ms) (hs : SX X b N xs) (hN : N < 2147483648) (hi : i + 7 ≤ N) (hrm : 40 ≤ rf ∧ 2000 ≤ rl) (hcs : ce + 2 ≤ mc ∧ sl + 20 ≤ ms) (hu : u < 1000000) (hI : LInv w u fi pc rh s sgI sgF sz t wr kp ir iss ik) (kk : Nxt X Q D q ad im b i u ce sl) : G X Q (lawC D q ad im w u fi pc rh vv s sgI sgF sz t nx cl fn fa v ev wr bo bt bs ir iv iss ik wl kp qn cn pa fl lo ln mwl) ce sl 140 [some (.ref b), some (.ref (q 0)), some (.ref (q 40)), some (.int (nI i))] [] := by
  obtain ⟨hc, him, hsg, hsz, ht, hwr, hss⟩ := hI
  show G X Q (lawS D q ad im w u fi pc rh vv (nI s) sgI sgF sz t nx cl fn fa v ev wr bo bt bs ir iv iss ik wl w pc kp (nI s) iss t sz fa bo bt bs wr qn cn pa fl lo ln mwl).flatten ce sl 140 [some (.ref b), some (.ref (q 0)), some (.ref (q 40)), some (.int (nI i))] []
  have hrow : rowOK w := hc.row
  have hsr := hsg
  obtain ⟨o, ho2, ho⟩ := hrow.2.2.2.2.1
  refine g_aload_n hX dL_law_140 rfl ?_
  refine g_aload_n hX dL_law_141 rfl ?_
  refine g_iload_n hX dL_law_142 rfl ?_
  refine g_iconst hX dL_law_143 kn_i_1 ?_
  refine g_iaddN hX dL_law_144 ?_
  refine g_sld hX hs dL_law_145 hN (by omega) ?_
  refine g_callQ (segs := lawS D q ad im w u fi pc rh vv (nI s) sgI sgF sz t nx cl fn fa v ev wr bo bt bs ir iv iss ik wl w pc kp (nI s) iss t sz fa bo bt bs wr qn cn pa fl lo ln mwl) (fun ugh => match ugh with | (c_V, c_T2, c_Z) => [gsT D q (nI s), gsR0 D q c_Z nx cl fn fa, gsR1 D q c_T2]) [7, 9, 10] [0, 1, 2, 3, 4, 5, 6, 8, 11, 12, 13, 14, 15, 16, 17, 18, 19, 20, 21, 22, 23, 24] hX dL_law_146 cw_L_13 (ct_X6_feed (l := l) (D := D) (z0 := (q 0)) (s0 := (q 1)) (v0 := (q 6)) (d0 := (q 16)) (d1 := (q 17)) (e0 := (q 18)) (y0 := (q 23)) (b0 := (q 25)) (i0 := (q 29)) (i1 := (q 30)) (i2 := (q 31)) (i3 := (q 32)) (sd := (nI s)) (sz := sz) (nx := nx) (cl := cl) (fn := fn) (fa := fa) (t := t) (c := (xs (i + 1))) hsz) 0 7 rfl (show ([7, 9, 10] ++ [0, 1, 2, 3, 4, 5, 6, 8, 11, 12, 13, 14, 15, 16, 17, 18, 19, 20, 21, 22, 23, 24] : List Nat).Perm (List.range 25) by decide) rfl rfl rfl rfl (fun ⟨_, _, _⟩ => rfl) (fun ⟨_, _, _⟩ => rfl) (fun ⟨_, _, _⟩ => rfl) ⟨by omega, by omega⟩ (Nat.le_of_ble_eq_true rfl) ⟨by omega, by omega⟩ (fun vgh ugh hp => ?_)
  obtain ⟨c_V, c_T2, c_Z⟩ := ugh
  obtain ⟨rfl, c_hv⟩ := hp
  show G X Q (lawS D q ad im w u fi pc rh vv (nI s) sgI sgF c_Z c_T2 nx cl fn fa v ev wr bo bt bs ir iv iss ik wl w pc kp (nI s) iss t sz fa bo bt bs wr qn cn pa fl lo ln mwl).flatten (ce + 0) (sl + 0) 149 [some (.ref b), some (.ref (q 0)), some (.ref (q 40)), some (.int (nI i))] [.int c_V]
  refine g_aload_n hX dL_law_149 rfl ?_
  refine g_aload_n hX dL_law_150 rfl ?_
  refine g_iload_n hX dL_law_151 rfl ?_
  refine g_iconst hX dL_law_152 kn_i_1 ?_
  refine g_iaddN hX dL_law_153 ?_
  refine g_sld hX hs dL_law_154 hN (by omega) ?_
  refine g_callQ (segs := lawS D q ad im w u fi pc rh vv (nI s) sgI sgF c_Z c_T2 nx cl fn fa v ev wr bo bt bs ir iv iss ik wl w pc kp (nI s) iss t sz fa bo bt bs wr qn cn pa fl lo ln mwl) (fun ugh => match ugh with | (m_V, m_T, m_Z) => [gsM0 D q pc kp (nI s) m_Z fa wr pa fl ln, gsMt D q m_T]) [16, 19] [0, 1, 2, 3, 4, 5, 6, 7, 8, 9, 10, 11, 12, 13, 14, 15, 17, 18, 20, 21, 22, 23, 24] hX dL_law_155 cw_L_17 (ct_X7_feed (l := l) (D := D) (a0 := (q 40)) (a1 := (q 41)) (a2 := (q 42)) (a3 := (q 43)) (a4 := (q 44)) (a5 := (q 45)) (a6 := (q 46)) (a7 := (q 47)) (a8 := (q 48)) (a9 := (q 49)) (a10 := (q 50)) (uk := pc) (sz := sz) (wr := wr) (pa := pa) (fl := fl) (ln := ln) (kp := kp) (sd := (nI s)) (fa := fa) (t := t) (c := (xs (i + 1))) hsz) 0 8 rfl (show ([16, 19] ++ [0, 1, 2, 3, 4, 5, 6, 7, 8, 9, 10, 11, 12, 13, 14, 15, 17, 18, 20, 21, 22, 23, 24] : List Nat).Perm (List.range 25) by decide) rfl rfl rfl rfl (fun ⟨_, _, _⟩ => rfl) (fun ⟨_, _, _⟩ => rfl) (fun ⟨_, _, _⟩ => rfl) ⟨by omega, by omega⟩ (Nat.le_of_ble_eq_true rfl) ⟨by omega, by omega⟩ (fun vgh ugh hp => ?_)
  obtain ⟨m_V, m_T, m_Z⟩ := ugh
  obtain ⟨rfl, m_hv⟩ := hp
  show G X Q (lawS D q ad im w u fi pc rh vv (nI s) sgI sgF c_Z c_T2 nx cl fn fa v ev wr bo bt bs ir iv iss ik wl w pc kp (nI s) iss m_T m_Z fa bo bt bs wr qn cn pa fl lo ln mwl).flatten (ce + 0 + 0) (sl + 0 + 0) 158 [some (.ref b), some (.ref (q 0)), some (.ref (q 40)), some (.int (nI i))] [.int m_V, .int c_V]
  have hj := c_hv.trans m_hv.symm
  injection hj with e1 hj
  injection hj with e2 e3
  obtain ⟨hz1, hz2⟩ := feed_ok hsz ht c_hv
  subst e1 e2 e3
  refine g_icmp_eq (tgt := 881) hX dL_law_158 (by decide) (fun _ => ?_) (fun h => absurd rfl h)
  exact kk w u fi pc rh vv s sgI sgF c_Z c_T2 nx cl fn fa v ev wr bo bt bs ir iv iss ik wl kp qn cn pa fl lo ln mwl _ _ (by omega) (by omega) (by omega) ⟨hc, him, hsg, hz1, hz2, hwr, hss⟩
set_option maxRecDepth 100000 in
set_option maxHeartbeats 4000000 in
theorem lop_tell {X : CT} {l : Launch} {D : va_G} {nm : String} {rt : Option FieldType} {rf rl mc ms : Nat} {Q : State → Prop} {b N i ce sl : Nat} {xs : Nat → Int32} {q ad im : Nat → Nat} {w : Nat → Int32} {u fi pc : Nat} {rh : Nat → Nat → Int32} {vv : Nat → Int32} {s : Nat} {sgI : Nat → Int32} {sgF : Nat → Nat → Int32} {sz : Nat} {t : Nat → Nat} {nx cl fn fa : Int32} {v : Nat → Int32} {ev : Int32} {wr : Nat} {bo bt bs : Nat → Int32} {ir : Nat → Nat → Int32} {iv iss ik wl : Nat → Int32} {kp : Int32} {qn cn : Nat → Int32} {pa fl : Nat} {lo : Nat → Int32} {ln : Nat} {mwl : Nat → Int32} (hX : CX X l D RL nm cL_law 4 rt rf rl mc ms) (hs : SX X b N xs) (hN : N < 2147483648) (hi : i + 7 ≤ N) (hrm : 40 ≤ rf ∧ 2000 ≤ rl) (hcs : ce + 2 ≤ mc ∧ sl + 20 ≤ ms) (hu : u < 1000000) (hI : LInv w u fi pc rh s sgI sgF sz t wr kp ir iss ik) (kk : Nxt X Q D q ad im b i u ce sl) : G X Q (lawC D q ad im w u fi pc rh vv s sgI sgF sz t nx cl fn fa v ev wr bo bt bs ir iv iss ik wl kp qn cn pa fl lo ln mwl) ce sl 163 [some (.ref b), some (.ref (q 0)), some (.ref (q 40)), some (.int (nI i))] [] := by
  obtain ⟨hc, him, hsg, hsz, ht, hwr, hss⟩ := hI
  show G X Q (lawS D q ad im w u fi pc rh vv (nI s) sgI sgF sz t nx cl fn fa v ev wr bo bt bs ir iv iss ik wl w pc kp (nI s) iss t sz fa bo bt bs wr qn cn pa fl lo ln mwl).flatten ce sl 163 [some (.ref b), some (.ref (q 0)), some (.ref (q 40)), some (.int (nI i))] []
  rw [show lawS D q ad im w u fi pc rh vv (nI s) sgI sgF sz t nx cl fn fa v ev wr bo bt bs ir iv iss ik wl w pc kp (nI s) iss t sz fa bo bt bs wr qn cn pa fl lo ln mwl = lawS D q ad im (cpRow w 0 19) u fi pc rh vv (nI s) sgI sgF sz t nx cl fn fa v ev wr bo bt bs ir iv iss ik wl w pc kp (nI s) iss t sz fa bo bt bs wr qn cn pa fl lo ln mwl from lawS_r D (agr_cp w (by omega))]
  have hrow : rowOK (cpRow w 0 19) := rowOK_c hc.row (fun k hk => ((agr_cp w (by omega)) k hk).symm)
  have hsr := sgP_c (agr_cp w (f := 0) (t := 19) (by omega)) hsg
  obtain ⟨o, ho2, ho⟩ := hrow.2.2.2.2.1
  refine g_aload_n hX dL_law_163 rfl ?_
  refine g_callQ (segs := lawS D q ad im (cpRow w 0 19) u fi pc rh vv (nI s) sgI sgF sz t nx cl fn fa v ev wr bo bt bs ir iv iss ik wl w pc kp (nI s) iss t sz fa bo bt bs wr qn cn pa fl lo ln mwl) (fun ugh => match ugh with | (c_V, c_r2, c_u2, c_f2, c_c2, c_rh2, c_vv2, c_A, c_n2, c_F, c_P, c_W, c_ev2) => [gsP0 D q c_f2 c_c2, gsPR D q ad c_rh2 c_vv2, gsN0 D q c_r2 c_u2, gsNE D q c_r2, gsNB D q c_r2, gsNT D q c_r2, gsNG D q c_r2, gsT D q (nI s), gsR0 D q 0 (nI c_A) (nI c_n2) (nI c_F) c_P, gsR1 D q t, gsDR D q c_W c_ev2]) [0, 1, 2, 3, 4, 5, 6, 7, 9, 10, 11] [8, 12, 13, 14, 15, 16, 17, 18, 19, 20, 21, 22, 23, 24] hX dL_law_164 cw_L_18 (ct_X6_tell (l := l) (D := D) (z0 := (q 0)) (s0 := (q 1)) (s1 := (q 2)) (s2 := (q 3)) (s3 := (q 4)) (s4 := (q 5)) (v0 := (q 6)) (d0 := (q 16)) (d1 := (q 17)) (e0 := (q 18)) (e1 := (q 19)) (e2 := (q 20)) (e3 := (q 21)) (e4 := (q 22)) (y0 := (q 23)) (y1 := (q 24)) (fi := fi) (pc := pc) (b0 := (q 25)) (i0 := (q 29)) (i1 := (q 30)) (i2 := (q 31)) (i3 := (q 32)) (u := u) (r := (cpRow w 0 19)) (sd := (nI s)) (ad := ad) (rh := rh) (vv := vv) (sz := sz) (t := t) (v := v) (nx := nx) (cl := cl) (fn := fn) (fa := fa) (ev := ev) hc.2.2.2 hc.2.2.1 hsz ht) 87 7 rfl (show ([0, 1, 2, 3, 4, 5, 6, 7, 9, 10, 11] ++ [8, 12, 13, 14, 15, 16, 17, 18, 19, 20, 21, 22, 23, 24] : List Nat).Perm (List.range 25) by decide) rfl rfl rfl rfl (fun ⟨_, _, _, _, _, _, _, _, _, _, _, _, _⟩ => rfl) (fun ⟨_, _, _, _, _, _, _, _, _, _, _, _, _⟩ => rfl) (fun ⟨_, _, _, _, _, _, _, _, _, _, _, _, _⟩ => rfl) ⟨by omega, by omega⟩ (Nat.le_of_ble_eq_true rfl) ⟨by omega, by omega⟩ (fun vgh ugh hp => ?_)
  obtain ⟨c_V, c_r2, c_u2, c_f2, c_c2, c_rh2, c_vv2, c_A, c_n2, c_F, c_P, c_W, c_ev2⟩ := ugh
  obtain ⟨rfl, c_hv, c_hs, c_hF⟩ := hp
  show G X Q (lawS D q ad im c_r2 c_u2 c_f2 c_c2 c_rh2 c_vv2 (nI s) sgI sgF 0 t (nI c_A) (nI c_n2) (nI c_F) c_P c_W c_ev2 wr bo bt bs ir iv iss ik wl w pc kp (nI s) iss t sz fa bo bt bs wr qn cn pa fl lo ln mwl).flatten (ce + 0) (sl + 0) 167 [some (.ref b), some (.ref (q 0)), some (.ref (q 40)), some (.int (nI i))] [.int c_V]
  refine g_aload_n hX dL_law_167 rfl ?_
  refine g_callQ (segs := lawS D q ad im c_r2 c_u2 c_f2 c_c2 c_rh2 c_vv2 (nI s) sgI sgF 0 t (nI c_A) (nI c_n2) (nI c_F) c_P c_W c_ev2 wr bo bt bs ir iv iss ik wl w pc kp (nI s) iss t sz fa bo bt bs wr qn cn pa fl lo ln mwl) (fun ugh => match ugh with | (m_V, m_A, m_F, m_P, m_U, m_W) => [gsM0 D q m_U kp (nI s) 0 m_P wr m_A m_F ln, gsMt D q t, gsMw D q m_W]) [16, 19, 17] [0, 1, 2, 3, 4, 5, 6, 7, 8, 9, 10, 11, 12, 13, 14, 15, 18, 20, 21, 22, 23, 24] hX dL_law_168 cw_L_22 (ct_X7_tell (l := l) (D := D) (a0 := (q 40)) (a1 := (q 41)) (a2 := (q 42)) (a3 := (q 43)) (a4 := (q 44)) (a5 := (q 45)) (a6 := (q 46)) (a7 := (q 47)) (a8 := (q 48)) (a9 := (q 49)) (a10 := (q 50)) (uk := pc) (sz := sz) (wr := wr) (pa := pa) (fl := fl) (ln := ln) (kp := kp) (sd := (nI s)) (fa := fa) (t := t) (w := w) hsz ht hc.2.2.2) 0 8 rfl (show ([16, 19, 17] ++ [0, 1, 2, 3, 4, 5, 6, 7, 8, 9, 10, 11, 12, 13, 14, 15, 18, 20, 21, 22, 23, 24] : List Nat).Perm (List.range 25) by decide) rfl rfl rfl rfl (fun ⟨_, _, _, _, _, _⟩ => rfl) (fun ⟨_, _, _, _, _, _⟩ => rfl) (fun ⟨_, _, _, _, _, _⟩ => rfl) ⟨by omega, by omega⟩ (Nat.le_of_ble_eq_true rfl) ⟨by omega, by omega⟩ (fun vgh ugh hp => ?_)
  obtain ⟨m_V, m_A, m_F, m_P, m_U, m_W⟩ := ugh
  obtain ⟨rfl, m_hs, m_hA⟩ := hp
  show G X Q (lawS D q ad im c_r2 c_u2 c_f2 c_c2 c_rh2 c_vv2 (nI s) sgI sgF 0 t (nI c_A) (nI c_n2) (nI c_F) c_P c_W c_ev2 wr bo bt bs ir iv iss ik wl m_W m_U kp (nI s) iss t 0 m_P bo bt bs wr qn cn m_A m_F lo ln mwl).flatten (ce + 0 + 0) (sl + 0 + 0) 171 [some (.ref b), some (.ref (q 0)), some (.ref (q 40)), some (.int (nI i))] [.int m_V, .int c_V]
  obtain ⟨⟨hV, hU, hag, hco, hwi, hve⟩, hPP⟩ := op_tell hc c_hv c_hs m_hs
  subst hV hU hPP
  refine g_icmp_eq (tgt := 881) hX dL_law_171 (by decide) (fun _ => ?_) (fun h => absurd rfl h)
  rw [show lawS D q ad im c_r2 c_u2 c_f2 m_U c_rh2 c_vv2 (nI s) sgI sgF 0 t (nI c_A) (nI c_n2) (nI c_F) c_P c_W c_ev2 wr bo bt bs ir iv iss ik wl m_W m_U kp (nI s) iss t 0 c_P bo bt bs wr qn cn m_A m_F lo ln mwl = lawS D q ad im m_W c_u2 c_f2 m_U c_rh2 c_vv2 (nI s) sgI sgF 0 t (nI c_A) (nI c_n2) (nI c_F) c_P c_W c_ev2 wr bo bt bs ir iv iss ik wl m_W m_U kp (nI s) iss t 0 c_P bo bt bs wr qn cn m_A m_F lo ln mwl from lawS_r D hag]
  exact kk m_W c_u2 c_f2 m_U c_rh2 c_vv2 s sgI sgF 0 t (nI c_A) (nI c_n2) (nI c_F) c_P c_W c_ev2 wr bo bt bs ir iv iss ik wl kp qn cn m_A m_F lo ln mwl _ _ (by rcases hve with h | h <;> omega) (by omega) (by omega) ⟨hco, him.next hwi, sg_step hsg hve hu, Nat.zero_le _, ht, hwr, hss⟩
set_option maxRecDepth 100000 in
set_option maxHeartbeats 4000000 in
theorem lop_fault {X : CT} {l : Launch} {D : va_G} {nm : String} {rt : Option FieldType} {rf rl mc ms : Nat} {Q : State → Prop} {b N i ce sl : Nat} {xs : Nat → Int32} {q ad im : Nat → Nat} {w : Nat → Int32} {u fi pc : Nat} {rh : Nat → Nat → Int32} {vv : Nat → Int32} {s : Nat} {sgI : Nat → Int32} {sgF : Nat → Nat → Int32} {sz : Nat} {t : Nat → Nat} {nx cl fn fa : Int32} {v : Nat → Int32} {ev : Int32} {wr : Nat} {bo bt bs : Nat → Int32} {ir : Nat → Nat → Int32} {iv iss ik wl : Nat → Int32} {kp : Int32} {qn cn : Nat → Int32} {pa fl : Nat} {lo : Nat → Int32} {ln : Nat} {mwl : Nat → Int32} (hX : CX X l D RL nm cL_law 4 rt rf rl mc ms) (hs : SX X b N xs) (hN : N < 2147483648) (hi : i + 7 ≤ N) (hrm : 40 ≤ rf ∧ 2000 ≤ rl) (hcs : ce + 2 ≤ mc ∧ sl + 20 ≤ ms) (hu : u < 1000000) (hI : LInv w u fi pc rh s sgI sgF sz t wr kp ir iss ik) (kk : Nxt X Q D q ad im b i u ce sl) : G X Q (lawC D q ad im w u fi pc rh vv s sgI sgF sz t nx cl fn fa v ev wr bo bt bs ir iv iss ik wl kp qn cn pa fl lo ln mwl) ce sl 176 [some (.ref b), some (.ref (q 0)), some (.ref (q 40)), some (.int (nI i))] [] := by
  obtain ⟨hc, him, hsg, hsz, ht, hwr, hss⟩ := hI
  show G X Q (lawS D q ad im w u fi pc rh vv (nI s) sgI sgF sz t nx cl fn fa v ev wr bo bt bs ir iv iss ik wl w pc kp (nI s) iss t sz fa bo bt bs wr qn cn pa fl lo ln mwl).flatten ce sl 176 [some (.ref b), some (.ref (q 0)), some (.ref (q 40)), some (.int (nI i))] []
  have hrow : rowOK w := hc.row
  have hsr := hsg
  obtain ⟨o, ho2, ho⟩ := hrow.2.2.2.2.1
  refine g_aload_n hX dL_law_176 rfl ?_
  refine g_callQ (segs := lawS D q ad im w u fi pc rh vv (nI s) sgI sgF sz t nx cl fn fa v ev wr bo bt bs ir iv iss ik wl w pc kp (nI s) iss t sz fa bo bt bs wr qn cn pa fl lo ln mwl) (fun (_ : Unit) => [gsT D q (nI s), gsR0 D q sz nx cl fn fa]) [7, 9] [0, 1, 2, 3, 4, 5, 6, 8, 10, 11, 12, 13, 14, 15, 16, 17, 18, 19, 20, 21, 22, 23, 24] hX dL_law_177 cw_L_23 (ct_X6_fault (l := l) (D := D) (z0 := (q 0)) (s0 := (q 1)) (v0 := (q 6)) (d0 := (q 16)) (d1 := (q 17)) (e0 := (q 18)) (y0 := (q 23)) (b0 := (q 25)) (i0 := (q 29)) (i1 := (q 30)) (i2 := (q 31)) (i3 := (q 32)) (sd := (nI s)) (sz := sz) (nx := nx) (cl := cl) (fn := fn) (fa := fa) ) 0 7 rfl (show ([7, 9] ++ [0, 1, 2, 3, 4, 5, 6, 8, 10, 11, 12, 13, 14, 15, 16, 17, 18, 19, 20, 21, 22, 23, 24] : List Nat).Perm (List.range 25) by decide) rfl rfl rfl rfl (fun _ => rfl) (fun _ => rfl) (fun _ => rfl) ⟨by omega, by omega⟩ (Nat.le_of_ble_eq_true rfl) ⟨by omega, by omega⟩ (fun vgh ugh hp => ?_)
  obtain rfl := hp
  show G X Q (lawS D q ad im w u fi pc rh vv (nI s) sgI sgF sz t nx cl fn fa v ev wr bo bt bs ir iv iss ik wl w pc kp (nI s) iss t sz fa bo bt bs wr qn cn pa fl lo ln mwl).flatten (ce + 0) (sl + 0) 180 [some (.ref b), some (.ref (q 0)), some (.ref (q 40)), some (.int (nI i))] [.int fa]
  refine g_aload_n hX dL_law_180 rfl ?_
  refine g_callQ (segs := lawS D q ad im w u fi pc rh vv (nI s) sgI sgF sz t nx cl fn fa v ev wr bo bt bs ir iv iss ik wl w pc kp (nI s) iss t sz fa bo bt bs wr qn cn pa fl lo ln mwl) (fun (_ : Unit) => [gsM0 D q pc kp (nI s) sz fa wr pa fl ln]) [16] [0, 1, 2, 3, 4, 5, 6, 7, 8, 9, 10, 11, 12, 13, 14, 15, 17, 18, 19, 20, 21, 22, 23, 24] hX dL_law_181 cw_L_26 (ct_X7_fault (l := l) (D := D) (a0 := (q 40)) (a1 := (q 41)) (a2 := (q 42)) (a3 := (q 43)) (a4 := (q 44)) (a5 := (q 45)) (a6 := (q 46)) (a7 := (q 47)) (a8 := (q 48)) (a9 := (q 49)) (a10 := (q 50)) (uk := pc) (sz := sz) (wr := wr) (pa := pa) (fl := fl) (ln := ln) (kp := kp) (sd := (nI s)) (fa := fa) ) 0 8 rfl (show ([16] ++ [0, 1, 2, 3, 4, 5, 6, 7, 8, 9, 10, 11, 12, 13, 14, 15, 17, 18, 19, 20, 21, 22, 23, 24] : List Nat).Perm (List.range 25) by decide) rfl rfl rfl rfl (fun _ => rfl) (fun _ => rfl) (fun _ => rfl) ⟨by omega, by omega⟩ (Nat.le_of_ble_eq_true rfl) ⟨by omega, by omega⟩ (fun vgh ugh hp => ?_)
  obtain rfl := hp
  show G X Q (lawS D q ad im w u fi pc rh vv (nI s) sgI sgF sz t nx cl fn fa v ev wr bo bt bs ir iv iss ik wl w pc kp (nI s) iss t sz fa bo bt bs wr qn cn pa fl lo ln mwl).flatten (ce + 0 + 0) (sl + 0 + 0) 184 [some (.ref b), some (.ref (q 0)), some (.ref (q 40)), some (.int (nI i))] [.int fa, .int fa]
  refine g_icmp_eq (tgt := 881) hX dL_law_184 (by decide) (fun _ => ?_) (fun h => absurd rfl h)
  exact kk w u fi pc rh vv s sgI sgF sz t nx cl fn fa v ev wr bo bt bs ir iv iss ik wl kp qn cn pa fl lo ln mwl _ _ (by omega) (by omega) (by omega) ⟨hc, him, hsg, hsz, ht, hwr, hss⟩
set_option maxRecDepth 100000 in
set_option maxHeartbeats 4000000 in
theorem lop_told {X : CT} {l : Launch} {D : va_G} {nm : String} {rt : Option FieldType} {rf rl mc ms : Nat} {Q : State → Prop} {b N i ce sl : Nat} {xs : Nat → Int32} {q ad im : Nat → Nat} {w : Nat → Int32} {u fi pc : Nat} {rh : Nat → Nat → Int32} {vv : Nat → Int32} {s : Nat} {sgI : Nat → Int32} {sgF : Nat → Nat → Int32} {sz : Nat} {t : Nat → Nat} {nx cl fn fa : Int32} {v : Nat → Int32} {ev : Int32} {wr : Nat} {bo bt bs : Nat → Int32} {ir : Nat → Nat → Int32} {iv iss ik wl : Nat → Int32} {kp : Int32} {qn cn : Nat → Int32} {pa fl : Nat} {lo : Nat → Int32} {ln : Nat} {mwl : Nat → Int32} (hX : CX X l D RL nm cL_law 4 rt rf rl mc ms) (hs : SX X b N xs) (hN : N < 2147483648) (hi : i + 7 ≤ N) (hrm : 40 ≤ rf ∧ 2000 ≤ rl) (hcs : ce + 2 ≤ mc ∧ sl + 20 ≤ ms) (hu : u < 1000000) (hI : LInv w u fi pc rh s sgI sgF sz t wr kp ir iss ik) (kk : Nxt X Q D q ad im b i u ce sl) : G X Q (lawC D q ad im w u fi pc rh vv s sgI sgF sz t nx cl fn fa v ev wr bo bt bs ir iv iss ik wl kp qn cn pa fl lo ln mwl) ce sl 189 [some (.ref b), some (.ref (q 0)), some (.ref (q 40)), some (.int (nI i))] [] := by
  obtain ⟨hc, him, hsg, hsz, ht, hwr, hss⟩ := hI
  show G X Q (lawS D q ad im w u fi pc rh vv (nI s) sgI sgF sz t nx cl fn fa v ev wr bo bt bs ir iv iss ik wl w pc kp (nI s) iss t sz fa bo bt bs wr qn cn pa fl lo ln mwl).flatten ce sl 189 [some (.ref b), some (.ref (q 0)), some (.ref (q 40)), some (.int (nI i))] []
  have hrow : rowOK w := hc.row
  have hsr := hsg
  obtain ⟨o, ho2, ho⟩ := hrow.2.2.2.2.1
  refine g_aload_n hX dL_law_189 rfl ?_
  refine g_aload_n hX dL_law_190 rfl ?_
  refine g_iload_n hX dL_law_191 rfl ?_
  refine g_iconst hX dL_law_192 kn_i_1 ?_
  refine g_iaddN hX dL_law_193 ?_
  refine g_sld hX hs dL_law_194 hN (by omega) ?_
  refine g_callQ (segs := lawS D q ad im w u fi pc rh vv (nI s) sgI sgF sz t nx cl fn fa v ev wr bo bt bs ir iv iss ik wl w pc kp (nI s) iss t sz fa bo bt bs wr qn cn pa fl lo ln mwl) (fun ugh => match ugh with | (c_sv2, c_cr2, c_cf2, c_pr2, c_jd2, c_kp2, c_ks2, c_kl2, c_ctA2, c_ctB2, c_cA2, c_lA2, c_mA2, c_cB2, c_lB2, c_mB2, c_ta2) => [gsT D q (nI s), gsN0 D q w u, gsNE D q w, gsNT D q w, gsNG D q w, gsSG D q (fun (k : Nat) => ([c_sv2, c_cr2, c_cf2, c_pr2, c_jd2, c_kp2, c_ks2, c_kl2, c_ctA2, c_ctB2] : List Int32).getD k 0) (fun (k : Nat) => ([c_cA2, c_lA2, c_mA2, c_cB2, c_lB2, c_mB2, c_ta2] : List (Nat → Int32)).getD k (fun _ => 0)), gsB0 D q wr, gsBA D q bo bt bs, gsR0 D q sz nx cl fn fa, gsP0 D q fi pc]) [7, 2, 3, 5, 6, 8, 12, 13, 9, 0] [1, 4, 10, 11, 14, 15, 16, 17, 18, 19, 20, 21, 22, 23, 24] hX dL_law_195 cw_L_27 (ct_X6_told (l := l) (D := D) (z0 := (q 0)) (s0 := (q 1)) (s1 := (q 2)) (s2 := (q 3)) (s3 := (q 4)) (s4 := (q 5)) (v0 := (q 6)) (v1 := (q 15)) (l0 := (q 7)) (l1 := (q 8)) (l2 := (q 9)) (l3 := (q 10)) (g0 := (q 11)) (g1 := (q 12)) (g2 := (q 13)) (g3 := (q 14)) (d0 := (q 16)) (d1 := (q 17)) (e0 := (q 18)) (y0 := (q 23)) (y1 := (q 24)) (b0 := (q 25)) (b1 := (q 26)) (b2 := (q 27)) (b3 := (q 28)) (i0 := (q 29)) (i1 := (q 30)) (i2 := (q 31)) (i3 := (q 32)) (u := u) (o := o) (r := w) (cA := (sgF 0)) (lA := (sgF 1)) (mA := (sgF 2)) (cB := (sgF 3)) (lB := (sgF 4)) (mB := (sgF 5)) (ta := (sgF 6)) (sv := (sgI 0)) (ctA := (sgI 8)) (ctB := (sgI 9)) (cr := (sgI 1)) (cf := (sgI 2)) (pr := (sgI 3)) (jd := (sgI 4)) (kp := (sgI 5)) (ks := (sgI 6)) (kl := (sgI 7)) (sd := (nI s)) (wr := wr) (sz := sz) (fi := fi) (pc := pc) (bo := bo) (bt := bt) (bs := bs) (nx := nx) (cl := cl) (fn := fn) (fa := fa) (what := (xs (i + 1))) hrow.1 hrow.2.2.1 ho ho2 hrow.2.1 hrow.cap hrow.lk hsr hwr) 0 7 rfl (show ([7, 2, 3, 5, 6, 8, 12, 13, 9, 0] ++ [1, 4, 10, 11, 14, 15, 16, 17, 18, 19, 20, 21, 22, 23, 24] : List Nat).Perm (List.range 25) by decide) rfl rfl rfl rfl (fun ⟨_, _, _, _, _, _, _, _, _, _, _, _, _, _, _, _, _⟩ => rfl) (fun ⟨_, _, _, _, _, _, _, _, _, _, _, _, _, _, _, _, _⟩ => rfl) (fun ⟨_, _, _, _, _, _, _, _, _, _, _, _, _, _, _, _, _⟩ => rfl) ⟨by omega, by omega⟩ (Nat.le_of_ble_eq_true rfl) ⟨by omega, by omega⟩ (fun vgh ugh hp => ?_)
  obtain ⟨c_sv2, c_cr2, c_cf2, c_pr2, c_jd2, c_kp2, c_ks2, c_kl2, c_ctA2, c_ctB2, c_cA2, c_lA2, c_mA2, c_cB2, c_lB2, c_mB2, c_ta2⟩ := ugh
  obtain ⟨rfl, c_hsg2⟩ := hp
  show G X Q (lawS D q ad im w u fi pc rh vv (nI s) (fun (k : Nat) => ([c_sv2, c_cr2, c_cf2, c_pr2, c_jd2, c_kp2, c_ks2, c_kl2, c_ctA2, c_ctB2] : List Int32).getD k 0) (fun (k : Nat) => ([c_cA2, c_lA2, c_mA2, c_cB2, c_lB2, c_mB2, c_ta2] : List (Nat → Int32)).getD k (fun _ => 0)) sz t nx cl fn fa v ev wr bo bt bs ir iv iss ik wl w pc kp (nI s) iss t sz fa bo bt bs wr qn cn pa fl lo ln mwl).flatten (ce + 0) (sl + 0) 198 [some (.ref b), some (.ref (q 0)), some (.ref (q 40)), some (.int (nI i))] [.int (toldV w bo bt bs pc sz wr (nI s) (xs (i + 1)))]
  refine g_aload_n hX dL_law_198 rfl ?_
  refine g_aload_n hX dL_law_199 rfl ?_
  refine g_iload_n hX dL_law_200 rfl ?_
  refine g_iconst hX dL_law_201 kn_i_1 ?_
  refine g_iaddN hX dL_law_202 ?_
  refine g_sld hX hs dL_law_203 hN (by omega) ?_
  refine g_callQ (segs := lawS D q ad im w u fi pc rh vv (nI s) (fun (k : Nat) => ([c_sv2, c_cr2, c_cf2, c_pr2, c_jd2, c_kp2, c_ks2, c_kl2, c_ctA2, c_ctB2] : List Int32).getD k 0) (fun (k : Nat) => ([c_cA2, c_lA2, c_mA2, c_cB2, c_lB2, c_mB2, c_ta2] : List (Nat → Int32)).getD k (fun _ => 0)) sz t nx cl fn fa v ev wr bo bt bs ir iv iss ik wl w pc kp (nI s) iss t sz fa bo bt bs wr qn cn pa fl lo ln mwl) (fun ugh => match ugh with | (m_V, m_Qn, m_Cn) => [gsM0 D q pc kp (nI s) sz fa wr pa fl ln, gsMw D q w, gsMq D q m_Qn, gsMc D q m_Cn, gsMb D q bo bt bs]) [16, 17, 21, 22, 20] [0, 1, 2, 3, 4, 5, 6, 7, 8, 9, 10, 11, 12, 13, 14, 15, 18, 19, 23, 24] hX dL_law_204 cw_L_30 (ct_X7_told (l := l) (D := D) (a0 := (q 40)) (a1 := (q 41)) (a2 := (q 42)) (a3 := (q 43)) (a4 := (q 44)) (a5 := (q 45)) (a6 := (q 46)) (a7 := (q 47)) (a8 := (q 48)) (a9 := (q 49)) (a10 := (q 50)) (uk := pc) (sz := sz) (wr := wr) (pa := pa) (fl := fl) (ln := ln) (kp := kp) (sd := (nI s)) (fa := fa) (w := w) (q := qn) (cl := cn) (bo := bo) (bt := bt) (bs := bs) (what := (xs (i + 1))) hc.row.1 hwr) 0 8 rfl (show ([16, 17, 21, 22, 20] ++ [0, 1, 2, 3, 4, 5, 6, 7, 8, 9, 10, 11, 12, 13, 14, 15, 18, 19, 23, 24] : List Nat).Perm (List.range 25) by decide) rfl rfl rfl rfl (fun ⟨_, _, _⟩ => rfl) (fun ⟨_, _, _⟩ => rfl) (fun ⟨_, _, _⟩ => rfl) ⟨by omega, by omega⟩ (Nat.le_of_ble_eq_true rfl) ⟨by omega, by omega⟩ (fun vgh ugh hp => ?_)
  obtain ⟨m_V, m_Qn, m_Cn⟩ := ugh
  obtain ⟨rfl, m_hv⟩ := hp
  show G X Q (lawS D q ad im w u fi pc rh vv (nI s) (fun (k : Nat) => ([c_sv2, c_cr2, c_cf2, c_pr2, c_jd2, c_kp2, c_ks2, c_kl2, c_ctA2, c_ctB2] : List Int32).getD k 0) (fun (k : Nat) => ([c_cA2, c_lA2, c_mA2, c_cB2, c_lB2, c_mB2, c_ta2] : List (Nat → Int32)).getD k (fun _ => 0)) sz t nx cl fn fa v ev wr bo bt bs ir iv iss ik wl w pc kp (nI s) iss t sz fa bo bt bs wr m_Qn m_Cn pa fl lo ln mwl).flatten (ce + 0 + 0) (sl + 0 + 0) 207 [some (.ref b), some (.ref (q 0)), some (.ref (q 40)), some (.int (nI i))] [.int m_V, .int (toldV w bo bt bs pc sz wr (nI s) (xs (i + 1)))]
  refine g_icmp_eq (tgt := 881) hX dL_law_207 (by decide) (fun _ => ?_) (fun h => absurd m_hv.symm h)
  exact kk w u fi pc rh vv s (fun (k : Nat) => ([c_sv2, c_cr2, c_cf2, c_pr2, c_jd2, c_kp2, c_ks2, c_kl2, c_ctA2, c_ctB2] : List Int32).getD k 0) (fun (k : Nat) => ([c_cA2, c_lA2, c_mA2, c_cB2, c_lB2, c_mB2, c_ta2] : List (Nat → Int32)).getD k (fun _ => 0)) sz t nx cl fn fa v ev wr bo bt bs ir iv iss ik wl kp m_Qn m_Cn pa fl lo ln mwl _ _ (by omega) (by omega) (by omega) ⟨hc, him, c_hsg2, hsz, ht, hwr, hss⟩
set_option maxRecDepth 100000 in
set_option maxHeartbeats 4000000 in
theorem lop_edge {X : CT} {l : Launch} {D : va_G} {nm : String} {rt : Option FieldType} {rf rl mc ms : Nat} {Q : State → Prop} {b N i ce sl : Nat} {xs : Nat → Int32} {q ad im : Nat → Nat} {w : Nat → Int32} {u fi pc : Nat} {rh : Nat → Nat → Int32} {vv : Nat → Int32} {s : Nat} {sgI : Nat → Int32} {sgF : Nat → Nat → Int32} {sz : Nat} {t : Nat → Nat} {nx cl fn fa : Int32} {v : Nat → Int32} {ev : Int32} {wr : Nat} {bo bt bs : Nat → Int32} {ir : Nat → Nat → Int32} {iv iss ik wl : Nat → Int32} {kp : Int32} {qn cn : Nat → Int32} {pa fl : Nat} {lo : Nat → Int32} {ln : Nat} {mwl : Nat → Int32} (hX : CX X l D RL nm cL_law 4 rt rf rl mc ms) (hs : SX X b N xs) (hN : N < 2147483648) (hi : i + 7 ≤ N) (hrm : 40 ≤ rf ∧ 2000 ≤ rl) (hcs : ce + 2 ≤ mc ∧ sl + 20 ≤ ms) (hu : u < 1000000) (hI : LInv w u fi pc rh s sgI sgF sz t wr kp ir iss ik) (kk : Nxt X Q D q ad im b i u ce sl) : G X Q (lawC D q ad im w u fi pc rh vv s sgI sgF sz t nx cl fn fa v ev wr bo bt bs ir iv iss ik wl kp qn cn pa fl lo ln mwl) ce sl 212 [some (.ref b), some (.ref (q 0)), some (.ref (q 40)), some (.int (nI i))] [] := by
  obtain ⟨hc, him, hsg, hsz, ht, hwr, hss⟩ := hI
  show G X Q (lawS D q ad im w u fi pc rh vv (nI s) sgI sgF sz t nx cl fn fa v ev wr bo bt bs ir iv iss ik wl w pc kp (nI s) iss t sz fa bo bt bs wr qn cn pa fl lo ln mwl).flatten ce sl 212 [some (.ref b), some (.ref (q 0)), some (.ref (q 40)), some (.int (nI i))] []
  have hrow : rowOK w := hc.row
  have hsr := hsg
  obtain ⟨o, ho2, ho⟩ := hrow.2.2.2.2.1
  refine g_aload_n hX dL_law_212 rfl ?_
  refine g_aload_n hX dL_law_213 rfl ?_
  refine g_iload_n hX dL_law_214 rfl ?_
  refine g_iconst hX dL_law_215 kn_i_1 ?_
  refine g_iaddN hX dL_law_216 ?_
  refine g_sld hX hs dL_law_217 hN (by omega) ?_
  refine g_aload_n hX dL_law_218 rfl ?_
  refine g_iload_n hX dL_law_219 rfl ?_
  refine g_iconst hX dL_law_220 kn_i_2 ?_
  refine g_iaddN hX dL_law_221 ?_
  refine g_sld hX hs dL_law_222 hN (by omega) ?_
  refine g_aload_n hX dL_law_223 rfl ?_
  refine g_iload_n hX dL_law_224 rfl ?_
  refine g_iconst hX dL_law_225 kn_i_3 ?_
  refine g_iaddN hX dL_law_226 ?_
  refine g_sld hX hs dL_law_227 hN (by omega) ?_
  refine g_callQ (segs := lawS D q ad im w u fi pc rh vv (nI s) sgI sgF sz t nx cl fn fa v ev wr bo bt bs ir iv iss ik wl w pc kp (nI s) iss t sz fa bo bt bs wr qn cn pa fl lo ln mwl) (fun (_ : Unit) => [gsT D q (nI s), gsN0 D q w u, gsNE D q w]) [7, 2, 3] [0, 1, 4, 5, 6, 8, 9, 10, 11, 12, 13, 14, 15, 16, 17, 18, 19, 20, 21, 22, 23, 24] hX dL_law_228 cw_L_31 (ct_X6_edge (l := l) (D := D) (z0 := (q 0)) (s0 := (q 1)) (s1 := (q 2)) (s2 := (q 3)) (s3 := (q 4)) (s4 := (q 5)) (v0 := (q 6)) (d0 := (q 16)) (y0 := (q 23)) (b0 := (q 25)) (i0 := (q 29)) (i1 := (q 30)) (i2 := (q 31)) (i3 := (q 32)) (u := u) (r := w) (sd := (nI s)) (c := (xs (i + 1))) (side := (xs (i + 2))) (h := (xs (i + 3))) hrow.2.1) 0 7 rfl (show ([7, 2, 3] ++ [0, 1, 4, 5, 6, 8, 9, 10, 11, 12, 13, 14, 15, 16, 17, 18, 19, 20, 21, 22, 23, 24] : List Nat).Perm (List.range 25) by decide) rfl rfl rfl rfl (fun _ => rfl) (fun _ => rfl) (fun _ => rfl) ⟨by omega, by omega⟩ (Nat.le_of_ble_eq_true rfl) ⟨by omega, by omega⟩ (fun vgh ugh hp => ?_)
  obtain rfl := hp
  show G X Q (lawS D q ad im w u fi pc rh vv (nI s) sgI sgF sz t nx cl fn fa v ev wr bo bt bs ir iv iss ik wl w pc kp (nI s) iss t sz fa bo bt bs wr qn cn pa fl lo ln mwl).flatten (ce + 0) (sl + 0) 231 [some (.ref b), some (.ref (q 0)), some (.ref (q 40)), some (.int (nI i))] [.int (edgeV w (xs (i + 1)) (xs (i + 2)) (xs (i + 3)))]
  refine g_aload_n hX dL_law_231 rfl ?_
  refine g_aload_n hX dL_law_232 rfl ?_
  refine g_iload_n hX dL_law_233 rfl ?_
  refine g_iconst hX dL_law_234 kn_i_1 ?_
  refine g_iaddN hX dL_law_235 ?_
  refine g_sld hX hs dL_law_236 hN (by omega) ?_
  refine g_aload_n hX dL_law_237 rfl ?_
  refine g_iload_n hX dL_law_238 rfl ?_
  refine g_iconst hX dL_law_239 kn_i_2 ?_
  refine g_iaddN hX dL_law_240 ?_
  refine g_sld hX hs dL_law_241 hN (by omega) ?_
  refine g_aload_n hX dL_law_242 rfl ?_
  refine g_iload_n hX dL_law_243 rfl ?_
  refine g_iconst hX dL_law_244 kn_i_3 ?_
  refine g_iaddN hX dL_law_245 ?_
  refine g_sld hX hs dL_law_246 hN (by omega) ?_
  refine g_callQ (segs := lawS D q ad im w u fi pc rh vv (nI s) sgI sgF sz t nx cl fn fa v ev wr bo bt bs ir iv iss ik wl w pc kp (nI s) iss t sz fa bo bt bs wr qn cn pa fl lo ln mwl) (fun (_ : Unit) => [gsM0 D q pc kp (nI s) sz fa wr pa fl ln, gsMw D q w]) [16, 17] [0, 1, 2, 3, 4, 5, 6, 7, 8, 9, 10, 11, 12, 13, 14, 15, 18, 19, 20, 21, 22, 23, 24] hX dL_law_247 cw_L_35 (ct_X7_edge (l := l) (D := D) (a0 := (q 40)) (a1 := (q 41)) (fs := ([.ref (q 41), .int (nI (pc)), .int (kp), .int (nI s), .ref (q 42), .ref (q 43), .int (nI (sz)), .int (fa), .ref (q 44), .ref (q 45), .ref (q 46), .int (nI (wr)), .ref (q 47), .ref (q 48), .int (nI (pa)), .int (nI (fl)), .ref (q 49), .int (nI (ln)), .ref (q 50)])) (w := w) (c := (xs (i + 1))) (side := (xs (i + 2))) (h := (xs (i + 3))) rfl) 0 8 rfl (show ([16, 17] ++ [0, 1, 2, 3, 4, 5, 6, 7, 8, 9, 10, 11, 12, 13, 14, 15, 18, 19, 20, 21, 22, 23, 24] : List Nat).Perm (List.range 25) by decide) rfl rfl rfl rfl (fun _ => rfl) (fun _ => rfl) (fun _ => rfl) ⟨by omega, by omega⟩ (Nat.le_of_ble_eq_true rfl) ⟨by omega, by omega⟩ (fun vgh ugh hp => ?_)
  obtain rfl := hp
  show G X Q (lawS D q ad im w u fi pc rh vv (nI s) sgI sgF sz t nx cl fn fa v ev wr bo bt bs ir iv iss ik wl w pc kp (nI s) iss t sz fa bo bt bs wr qn cn pa fl lo ln mwl).flatten (ce + 0 + 0) (sl + 0 + 0) 250 [some (.ref b), some (.ref (q 0)), some (.ref (q 40)), some (.int (nI i))] [.int (edgeV w (xs (i + 1)) (xs (i + 2)) (xs (i + 3))), .int (edgeV w (xs (i + 1)) (xs (i + 2)) (xs (i + 3)))]
  refine g_icmp_eq (tgt := 881) hX dL_law_250 (by decide) (fun _ => ?_) (fun h => absurd rfl h)
  exact kk w u fi pc rh vv s sgI sgF sz t nx cl fn fa v ev wr bo bt bs ir iv iss ik wl kp qn cn pa fl lo ln mwl _ _ (by omega) (by omega) (by omega) ⟨hc, him, hsg, hsz, ht, hwr, hss⟩
set_option maxRecDepth 100000 in
set_option maxHeartbeats 4000000 in
theorem lop_at {X : CT} {l : Launch} {D : va_G} {nm : String} {rt : Option FieldType} {rf rl mc ms : Nat} {Q : State → Prop} {b N i ce sl : Nat} {xs : Nat → Int32} {q ad im : Nat → Nat} {w : Nat → Int32} {u fi pc : Nat} {rh : Nat → Nat → Int32} {vv : Nat → Int32} {s : Nat} {sgI : Nat → Int32} {sgF : Nat → Nat → Int32} {sz : Nat} {t : Nat → Nat} {nx cl fn fa : Int32} {v : Nat → Int32} {ev : Int32} {wr : Nat} {bo bt bs : Nat → Int32} {ir : Nat → Nat → Int32} {iv iss ik wl : Nat → Int32} {kp : Int32} {qn cn : Nat → Int32} {pa fl : Nat} {lo : Nat → Int32} {ln : Nat} {mwl : Nat → Int32} (hX : CX X l D RL nm cL_law 4 rt rf rl mc ms) (hs : SX X b N xs) (hN : N < 2147483648) (hi : i + 7 ≤ N) (hrm : 40 ≤ rf ∧ 2000 ≤ rl) (hcs : ce + 2 ≤ mc ∧ sl + 20 ≤ ms) (hu : u < 1000000) (hI : LInv w u fi pc rh s sgI sgF sz t wr kp ir iss ik) (kk : Nxt X Q D q ad im b i u ce sl) : G X Q (lawC D q ad im w u fi pc rh vv s sgI sgF sz t nx cl fn fa v ev wr bo bt bs ir iv iss ik wl kp qn cn pa fl lo ln mwl) ce sl 255 [some (.ref b), some (.ref (q 0)), some (.ref (q 40)), some (.int (nI i))] [] := by
  obtain ⟨hc, him, hsg, hsz, ht, hwr, hss⟩ := hI
  show G X Q (lawS D q ad im w u fi pc rh vv (nI s) sgI sgF sz t nx cl fn fa v ev wr bo bt bs ir iv iss ik wl w pc kp (nI s) iss t sz fa bo bt bs wr qn cn pa fl lo ln mwl).flatten ce sl 255 [some (.ref b), some (.ref (q 0)), some (.ref (q 40)), some (.int (nI i))] []
  have hrow : rowOK w := hc.row
  have hsr := hsg
  obtain ⟨o, ho2, ho⟩ := hrow.2.2.2.2.1
  refine g_aload_n hX dL_law_255 rfl ?_
  refine g_aload_n hX dL_law_256 rfl ?_
  refine g_iload_n hX dL_law_257 rfl ?_
  refine g_iconst hX dL_law_258 kn_i_1 ?_
  refine g_iaddN hX dL_law_259 ?_
  refine g_sld hX hs dL_law_260 hN (by omega) ?_
  refine g_aload_n hX dL_law_261 rfl ?_
  refine g_iload_n hX dL_law_262 rfl ?_
  refine g_iconst hX dL_law_263 kn_i_2 ?_
  refine g_iaddN hX dL_law_264 ?_
  refine g_sld hX hs dL_law_265 hN (by omega) ?_
  refine g_callQ (segs := lawS D q ad im w u fi pc rh vv (nI s) sgI sgF sz t nx cl fn fa v ev wr bo bt bs ir iv iss ik wl w pc kp (nI s) iss t sz fa bo bt bs wr qn cn pa fl lo ln mwl) (fun ugh => match ugh with | (c_sv2, c_cr2, c_cf2, c_pr2, c_jd2, c_kp2, c_ks2, c_kl2, c_ctA2, c_ctB2, c_cA2, c_lA2, c_mA2, c_cB2, c_lB2, c_mB2, c_ta2) => [gsT D q (nI s), gsN0 D q w u, gsNE D q w, gsNB D q w, gsNT D q w, gsSG D q (fun (k : Nat) => ([c_sv2, c_cr2, c_cf2, c_pr2, c_jd2, c_kp2, c_ks2, c_kl2, c_ctA2, c_ctB2] : List Int32).getD k 0) (fun (k : Nat) => ([c_cA2, c_lA2, c_mA2, c_cB2, c_lB2, c_mB2, c_ta2] : List (Nat → Int32)).getD k (fun _ => 0))]) [7, 2, 3, 4, 5, 8] [0, 1, 6, 9, 10, 11, 12, 13, 14, 15, 16, 17, 18, 19, 20, 21, 22, 23, 24] hX dL_law_266 cw_L_36 (ct_X6_at (l := l) (D := D) (z0 := (q 0)) (s0 := (q 1)) (s1 := (q 2)) (s2 := (q 3)) (s3 := (q 4)) (s4 := (q 5)) (v0 := (q 6)) (v1 := (q 15)) (l0 := (q 7)) (l1 := (q 8)) (l2 := (q 9)) (l3 := (q 10)) (g0 := (q 11)) (g1 := (q 12)) (g2 := (q 13)) (g3 := (q 14)) (d0 := (q 16)) (y0 := (q 23)) (b0 := (q 25)) (i0 := (q 29)) (i1 := (q 30)) (i2 := (q 31)) (i3 := (q 32)) (u := u) (o := o) (r := w) (cA := (sgF 0)) (lA := (sgF 1)) (mA := (sgF 2)) (cB := (sgF 3)) (lB := (sgF 4)) (mB := (sgF 5)) (ta := (sgF 6)) (sv := (sgI 0)) (ctA := (sgI 8)) (ctB := (sgI 9)) (cr := (sgI 1)) (cf := (sgI 2)) (pr := (sgI 3)) (jd := (sgI 4)) (kp := (sgI 5)) (ks := (sgI 6)) (kl := (sgI 7)) (sd := (nI s)) (c := (xs (i + 1))) (what := (xs (i + 2))) hrow.1 hrow.2.2.1 ho ho2 hrow.2.1 hrow.cap hrow.lk hsr) 0 7 rfl (show ([7, 2, 3, 4, 5, 8] ++ [0, 1, 6, 9, 10, 11, 12, 13, 14, 15, 16, 17, 18, 19, 20, 21, 22, 23, 24] : List Nat).Perm (List.range 25) by decide) rfl rfl rfl rfl (fun ⟨_, _, _, _, _, _, _, _, _, _, _, _, _, _, _, _, _⟩ => rfl) (fun ⟨_, _, _, _, _, _, _, _, _, _, _, _, _, _, _, _, _⟩ => rfl) (fun ⟨_, _, _, _, _, _, _, _, _, _, _, _, _, _, _, _, _⟩ => rfl) ⟨by omega, by omega⟩ (Nat.le_of_ble_eq_true rfl) ⟨by omega, by omega⟩ (fun vgh ugh hp => ?_)
  obtain ⟨c_sv2, c_cr2, c_cf2, c_pr2, c_jd2, c_kp2, c_ks2, c_kl2, c_ctA2, c_ctB2, c_cA2, c_lA2, c_mA2, c_cB2, c_lB2, c_mB2, c_ta2⟩ := ugh
  obtain ⟨rfl, c_hsg2⟩ := hp
  show G X Q (lawS D q ad im w u fi pc rh vv (nI s) (fun (k : Nat) => ([c_sv2, c_cr2, c_cf2, c_pr2, c_jd2, c_kp2, c_ks2, c_kl2, c_ctA2, c_ctB2] : List Int32).getD k 0) (fun (k : Nat) => ([c_cA2, c_lA2, c_mA2, c_cB2, c_lB2, c_mB2, c_ta2] : List (Nat → Int32)).getD k (fun _ => 0)) sz t nx cl fn fa v ev wr bo bt bs ir iv iss ik wl w pc kp (nI s) iss t sz fa bo bt bs wr qn cn pa fl lo ln mwl).flatten (ce + 0) (sl + 0) 269 [some (.ref b), some (.ref (q 0)), some (.ref (q 40)), some (.int (nI i))] [.int (atV w (xs (i + 1)) (xs (i + 2)))]
  refine g_aload_n hX dL_law_269 rfl ?_
  refine g_aload_n hX dL_law_270 rfl ?_
  refine g_iload_n hX dL_law_271 rfl ?_
  refine g_iconst hX dL_law_272 kn_i_1 ?_
  refine g_iaddN hX dL_law_273 ?_
  refine g_sld hX hs dL_law_274 hN (by omega) ?_
  refine g_aload_n hX dL_law_275 rfl ?_
  refine g_iload_n hX dL_law_276 rfl ?_
  refine g_iconst hX dL_law_277 kn_i_2 ?_
  refine g_iaddN hX dL_law_278 ?_
  refine g_sld hX hs dL_law_279 hN (by omega) ?_
  refine g_callQ (segs := lawS D q ad im w u fi pc rh vv (nI s) (fun (k : Nat) => ([c_sv2, c_cr2, c_cf2, c_pr2, c_jd2, c_kp2, c_ks2, c_kl2, c_ctA2, c_ctB2] : List Int32).getD k 0) (fun (k : Nat) => ([c_cA2, c_lA2, c_mA2, c_cB2, c_lB2, c_mB2, c_ta2] : List (Nat → Int32)).getD k (fun _ => 0)) sz t nx cl fn fa v ev wr bo bt bs ir iv iss ik wl w pc kp (nI s) iss t sz fa bo bt bs wr qn cn pa fl lo ln mwl) (fun ugh => match ugh with | (m_V, m_Qn, m_Cn) => [gsM0 D q pc kp (nI s) sz fa wr pa fl ln, gsMw D q w, gsMq D q m_Qn, gsMc D q m_Cn]) [16, 17, 21, 22] [0, 1, 2, 3, 4, 5, 6, 7, 8, 9, 10, 11, 12, 13, 14, 15, 18, 19, 20, 23, 24] hX dL_law_280 cw_L_40 (ct_X7_at (l := l) (D := D) (a0 := (q 40)) (a1 := (q 41)) (a2 := (q 42)) (a3 := (q 43)) (a4 := (q 44)) (a5 := (q 45)) (a6 := (q 46)) (a7 := (q 47)) (a8 := (q 48)) (a9 := (q 49)) (a10 := (q 50)) (uk := pc) (sz := sz) (wr := wr) (pa := pa) (fl := fl) (ln := ln) (kp := kp) (sd := (nI s)) (fa := fa) (w := w) (q := qn) (cl := cn) (c := (xs (i + 1))) (what := (xs (i + 2))) ) 0 8 rfl (show ([16, 17, 21, 22] ++ [0, 1, 2, 3, 4, 5, 6, 7, 8, 9, 10, 11, 12, 13, 14, 15, 18, 19, 20, 23, 24] : List Nat).Perm (List.range 25) by decide) rfl rfl rfl rfl (fun ⟨_, _, _⟩ => rfl) (fun ⟨_, _, _⟩ => rfl) (fun ⟨_, _, _⟩ => rfl) ⟨by omega, by omega⟩ (Nat.le_of_ble_eq_true rfl) ⟨by omega, by omega⟩ (fun vgh ugh hp => ?_)
  obtain ⟨m_V, m_Qn, m_Cn⟩ := ugh
  obtain ⟨rfl, m_hv⟩ := hp
  show G X Q (lawS D q ad im w u fi pc rh vv (nI s) (fun (k : Nat) => ([c_sv2, c_cr2, c_cf2, c_pr2, c_jd2, c_kp2, c_ks2, c_kl2, c_ctA2, c_ctB2] : List Int32).getD k 0) (fun (k : Nat) => ([c_cA2, c_lA2, c_mA2, c_cB2, c_lB2, c_mB2, c_ta2] : List (Nat → Int32)).getD k (fun _ => 0)) sz t nx cl fn fa v ev wr bo bt bs ir iv iss ik wl w pc kp (nI s) iss t sz fa bo bt bs wr m_Qn m_Cn pa fl lo ln mwl).flatten (ce + 0 + 0) (sl + 0 + 0) 283 [some (.ref b), some (.ref (q 0)), some (.ref (q 40)), some (.int (nI i))] [.int m_V, .int (atV w (xs (i + 1)) (xs (i + 2)))]
  refine g_icmp_eq (tgt := 881) hX dL_law_283 (by decide) (fun _ => ?_) (fun h => absurd m_hv.symm h)
  exact kk w u fi pc rh vv s (fun (k : Nat) => ([c_sv2, c_cr2, c_cf2, c_pr2, c_jd2, c_kp2, c_ks2, c_kl2, c_ctA2, c_ctB2] : List Int32).getD k 0) (fun (k : Nat) => ([c_cA2, c_lA2, c_mA2, c_cB2, c_lB2, c_mB2, c_ta2] : List (Nat → Int32)).getD k (fun _ => 0)) sz t nx cl fn fa v ev wr bo bt bs ir iv iss ik wl kp m_Qn m_Cn pa fl lo ln mwl _ _ (by omega) (by omega) (by omega) ⟨hc, him, c_hsg2, hsz, ht, hwr, hss⟩
set_option maxRecDepth 100000 in
set_option maxHeartbeats 4000000 in
theorem lop_far {X : CT} {l : Launch} {D : va_G} {nm : String} {rt : Option FieldType} {rf rl mc ms : Nat} {Q : State → Prop} {b N i ce sl : Nat} {xs : Nat → Int32} {q ad im : Nat → Nat} {w : Nat → Int32} {u fi pc : Nat} {rh : Nat → Nat → Int32} {vv : Nat → Int32} {s : Nat} {sgI : Nat → Int32} {sgF : Nat → Nat → Int32} {sz : Nat} {t : Nat → Nat} {nx cl fn fa : Int32} {v : Nat → Int32} {ev : Int32} {wr : Nat} {bo bt bs : Nat → Int32} {ir : Nat → Nat → Int32} {iv iss ik wl : Nat → Int32} {kp : Int32} {qn cn : Nat → Int32} {pa fl : Nat} {lo : Nat → Int32} {ln : Nat} {mwl : Nat → Int32} (hX : CX X l D RL nm cL_law 4 rt rf rl mc ms) (hs : SX X b N xs) (hN : N < 2147483648) (hi : i + 7 ≤ N) (hrm : 40 ≤ rf ∧ 2000 ≤ rl) (hcs : ce + 2 ≤ mc ∧ sl + 20 ≤ ms) (hu : u < 1000000) (hI : LInv w u fi pc rh s sgI sgF sz t wr kp ir iss ik) (kk : Nxt X Q D q ad im b i u ce sl) : G X Q (lawC D q ad im w u fi pc rh vv s sgI sgF sz t nx cl fn fa v ev wr bo bt bs ir iv iss ik wl kp qn cn pa fl lo ln mwl) ce sl 288 [some (.ref b), some (.ref (q 0)), some (.ref (q 40)), some (.int (nI i))] [] := by
  obtain ⟨hc, him, hsg, hsz, ht, hwr, hss⟩ := hI
  show G X Q (lawS D q ad im w u fi pc rh vv (nI s) sgI sgF sz t nx cl fn fa v ev wr bo bt bs ir iv iss ik wl w pc kp (nI s) iss t sz fa bo bt bs wr qn cn pa fl lo ln mwl).flatten ce sl 288 [some (.ref b), some (.ref (q 0)), some (.ref (q 40)), some (.int (nI i))] []
  have hrow : rowOK w := hc.row
  have hsr := hsg
  obtain ⟨o, ho2, ho⟩ := hrow.2.2.2.2.1
  refine g_aload_n hX dL_law_288 rfl ?_
  refine g_aload_n hX dL_law_289 rfl ?_
  refine g_iload_n hX dL_law_290 rfl ?_
  refine g_iconst hX dL_law_291 kn_i_1 ?_
  refine g_iaddN hX dL_law_292 ?_
  refine g_sld hX hs dL_law_293 hN (by omega) ?_
  refine g_aload_n hX dL_law_294 rfl ?_
  refine g_iload_n hX dL_law_295 rfl ?_
  refine g_iconst hX dL_law_296 kn_i_2 ?_
  refine g_iaddN hX dL_law_297 ?_
  refine g_sld hX hs dL_law_298 hN (by omega) ?_
  refine g_aload_n hX dL_law_299 rfl ?_
  refine g_iload_n hX dL_law_300 rfl ?_
  refine g_iconst hX dL_law_301 kn_i_3 ?_
  refine g_iaddN hX dL_law_302 ?_
  refine g_sld hX hs dL_law_303 hN (by omega) ?_
  refine g_callQ (segs := lawS D q ad im w u fi pc rh vv (nI s) sgI sgF sz t nx cl fn fa v ev wr bo bt bs ir iv iss ik wl w pc kp (nI s) iss t sz fa bo bt bs wr qn cn pa fl lo ln mwl) (fun (_ : Unit) => [gsT D q (nI s), gsN0 D q w u, gsNE D q w, gsNT D q w]) [7, 2, 3, 5] [0, 1, 4, 6, 8, 9, 10, 11, 12, 13, 14, 15, 16, 17, 18, 19, 20, 21, 22, 23, 24] hX dL_law_304 cw_L_41 (ct_X6_far (l := l) (D := D) (z0 := (q 0)) (s0 := (q 1)) (s1 := (q 2)) (s2 := (q 3)) (s3 := (q 4)) (s4 := (q 5)) (v0 := (q 6)) (d0 := (q 16)) (y0 := (q 23)) (b0 := (q 25)) (i0 := (q 29)) (i1 := (q 30)) (i2 := (q 31)) (i3 := (q 32)) (u := u) (r := w) (sd := (nI s)) (c := (xs (i + 1))) (d := (xs (i + 2))) (side := (xs (i + 3))) hrow.2.1) 0 7 rfl (show ([7, 2, 3, 5] ++ [0, 1, 4, 6, 8, 9, 10, 11, 12, 13, 14, 15, 16, 17, 18, 19, 20, 21, 22, 23, 24] : List Nat).Perm (List.range 25) by decide) rfl rfl rfl rfl (fun _ => rfl) (fun _ => rfl) (fun _ => rfl) ⟨by omega, by omega⟩ (Nat.le_of_ble_eq_true rfl) ⟨by omega, by omega⟩ (fun vgh ugh hp => ?_)
  obtain rfl := hp
  show G X Q (lawS D q ad im w u fi pc rh vv (nI s) sgI sgF sz t nx cl fn fa v ev wr bo bt bs ir iv iss ik wl w pc kp (nI s) iss t sz fa bo bt bs wr qn cn pa fl lo ln mwl).flatten (ce + 0) (sl + 0) 307 [some (.ref b), some (.ref (q 0)), some (.ref (q 40)), some (.int (nI i))] [.int (farV w (xs (i + 1)) (xs (i + 2)) (xs (i + 3)))]
  refine g_aload_n hX dL_law_307 rfl ?_
  refine g_aload_n hX dL_law_308 rfl ?_
  refine g_iload_n hX dL_law_309 rfl ?_
  refine g_iconst hX dL_law_310 kn_i_1 ?_
  refine g_iaddN hX dL_law_311 ?_
  refine g_sld hX hs dL_law_312 hN (by omega) ?_
  refine g_aload_n hX dL_law_313 rfl ?_
  refine g_iload_n hX dL_law_314 rfl ?_
  refine g_iconst hX dL_law_315 kn_i_2 ?_
  refine g_iaddN hX dL_law_316 ?_
  refine g_sld hX hs dL_law_317 hN (by omega) ?_
  refine g_aload_n hX dL_law_318 rfl ?_
  refine g_iload_n hX dL_law_319 rfl ?_
  refine g_iconst hX dL_law_320 kn_i_3 ?_
  refine g_iaddN hX dL_law_321 ?_
  refine g_sld hX hs dL_law_322 hN (by omega) ?_
  refine g_callQ (segs := lawS D q ad im w u fi pc rh vv (nI s) sgI sgF sz t nx cl fn fa v ev wr bo bt bs ir iv iss ik wl w pc kp (nI s) iss t sz fa bo bt bs wr qn cn pa fl lo ln mwl) (fun (_ : Unit) => [gsM0 D q pc kp (nI s) sz fa wr pa fl ln, gsMw D q w]) [16, 17] [0, 1, 2, 3, 4, 5, 6, 7, 8, 9, 10, 11, 12, 13, 14, 15, 18, 19, 20, 21, 22, 23, 24] hX dL_law_323 cw_L_44 (ct_X7_far (l := l) (D := D) (a0 := (q 40)) (a1 := (q 41)) (fs := ([.ref (q 41), .int (nI (pc)), .int (kp), .int (nI s), .ref (q 42), .ref (q 43), .int (nI (sz)), .int (fa), .ref (q 44), .ref (q 45), .ref (q 46), .int (nI (wr)), .ref (q 47), .ref (q 48), .int (nI (pa)), .int (nI (fl)), .ref (q 49), .int (nI (ln)), .ref (q 50)])) (w := w) (c := (xs (i + 1))) (d := (xs (i + 2))) (side := (xs (i + 3))) rfl) 0 8 rfl (show ([16, 17] ++ [0, 1, 2, 3, 4, 5, 6, 7, 8, 9, 10, 11, 12, 13, 14, 15, 18, 19, 20, 21, 22, 23, 24] : List Nat).Perm (List.range 25) by decide) rfl rfl rfl rfl (fun _ => rfl) (fun _ => rfl) (fun _ => rfl) ⟨by omega, by omega⟩ (Nat.le_of_ble_eq_true rfl) ⟨by omega, by omega⟩ (fun vgh ugh hp => ?_)
  obtain rfl := hp
  show G X Q (lawS D q ad im w u fi pc rh vv (nI s) sgI sgF sz t nx cl fn fa v ev wr bo bt bs ir iv iss ik wl w pc kp (nI s) iss t sz fa bo bt bs wr qn cn pa fl lo ln mwl).flatten (ce + 0 + 0) (sl + 0 + 0) 326 [some (.ref b), some (.ref (q 0)), some (.ref (q 40)), some (.int (nI i))] [.int (farV w (xs (i + 1)) (xs (i + 2)) (xs (i + 3))), .int (farV w (xs (i + 1)) (xs (i + 2)) (xs (i + 3)))]
  refine g_icmp_eq (tgt := 881) hX dL_law_326 (by decide) (fun _ => ?_) (fun h => absurd rfl h)
  exact kk w u fi pc rh vv s sgI sgF sz t nx cl fn fa v ev wr bo bt bs ir iv iss ik wl kp qn cn pa fl lo ln mwl _ _ (by omega) (by omega) (by omega) ⟨hc, him, hsg, hsz, ht, hwr, hss⟩
set_option maxRecDepth 100000 in
set_option maxHeartbeats 4000000 in
theorem lop_pair {X : CT} {l : Launch} {D : va_G} {nm : String} {rt : Option FieldType} {rf rl mc ms : Nat} {Q : State → Prop} {b N i ce sl : Nat} {xs : Nat → Int32} {q ad im : Nat → Nat} {w : Nat → Int32} {u fi pc : Nat} {rh : Nat → Nat → Int32} {vv : Nat → Int32} {s : Nat} {sgI : Nat → Int32} {sgF : Nat → Nat → Int32} {sz : Nat} {t : Nat → Nat} {nx cl fn fa : Int32} {v : Nat → Int32} {ev : Int32} {wr : Nat} {bo bt bs : Nat → Int32} {ir : Nat → Nat → Int32} {iv iss ik wl : Nat → Int32} {kp : Int32} {qn cn : Nat → Int32} {pa fl : Nat} {lo : Nat → Int32} {ln : Nat} {mwl : Nat → Int32} (hX : CX X l D RL nm cL_law 4 rt rf rl mc ms) (hs : SX X b N xs) (hN : N < 2147483648) (hi : i + 7 ≤ N) (hrm : 40 ≤ rf ∧ 2000 ≤ rl) (hcs : ce + 2 ≤ mc ∧ sl + 20 ≤ ms) (hu : u < 1000000) (hI : LInv w u fi pc rh s sgI sgF sz t wr kp ir iss ik) (kk : Nxt X Q D q ad im b i u ce sl) : G X Q (lawC D q ad im w u fi pc rh vv s sgI sgF sz t nx cl fn fa v ev wr bo bt bs ir iv iss ik wl kp qn cn pa fl lo ln mwl) ce sl 331 [some (.ref b), some (.ref (q 0)), some (.ref (q 40)), some (.int (nI i))] [] := by
  obtain ⟨hc, him, hsg, hsz, ht, hwr, hss⟩ := hI
  show G X Q (lawS D q ad im w u fi pc rh vv (nI s) sgI sgF sz t nx cl fn fa v ev wr bo bt bs ir iv iss ik wl w pc kp (nI s) iss t sz fa bo bt bs wr qn cn pa fl lo ln mwl).flatten ce sl 331 [some (.ref b), some (.ref (q 0)), some (.ref (q 40)), some (.int (nI i))] []
  have hrow : rowOK w := hc.row
  have hsr := hsg
  obtain ⟨o, ho2, ho⟩ := hrow.2.2.2.2.1
  refine g_aload_n hX dL_law_331 rfl ?_
  refine g_aload_n hX dL_law_332 rfl ?_
  refine g_iload_n hX dL_law_333 rfl ?_
  refine g_iconst hX dL_law_334 kn_i_1 ?_
  refine g_iaddN hX dL_law_335 ?_
  refine g_sld hX hs dL_law_336 hN (by omega) ?_
  refine g_aload_n hX dL_law_337 rfl ?_
  refine g_iload_n hX dL_law_338 rfl ?_
  refine g_iconst hX dL_law_339 kn_i_2 ?_
  refine g_iaddN hX dL_law_340 ?_
  refine g_sld hX hs dL_law_341 hN (by omega) ?_
  refine g_aload_n hX dL_law_342 rfl ?_
  refine g_iload_n hX dL_law_343 rfl ?_
  refine g_iconst hX dL_law_344 kn_i_3 ?_
  refine g_iaddN hX dL_law_345 ?_
  refine g_sld hX hs dL_law_346 hN (by omega) ?_
  refine g_callQ (segs := lawS D q ad im w u fi pc rh vv (nI s) sgI sgF sz t nx cl fn fa v ev wr bo bt bs ir iv iss ik wl w pc kp (nI s) iss t sz fa bo bt bs wr qn cn pa fl lo ln mwl) (fun ugh => match ugh with | (c_sv2, c_cr2, c_cf2, c_pr2, c_jd2, c_kp2, c_ks2, c_kl2, c_ctA2, c_ctB2, c_cA2, c_lA2, c_mA2, c_cB2, c_lB2, c_mB2, c_ta2) => [gsT D q (nI s), gsN0 D q w u, gsNE D q w, gsNT D q w, gsNG D q w, gsSG D q (fun (k : Nat) => ([c_sv2, c_cr2, c_cf2, c_pr2, c_jd2, c_kp2, c_ks2, c_kl2, c_ctA2, c_ctB2] : List Int32).getD k 0) (fun (k : Nat) => ([c_cA2, c_lA2, c_mA2, c_cB2, c_lB2, c_mB2, c_ta2] : List (Nat → Int32)).getD k (fun _ => 0))]) [7, 2, 3, 5, 6, 8] [0, 1, 4, 9, 10, 11, 12, 13, 14, 15, 16, 17, 18, 19, 20, 21, 22, 23, 24] hX dL_law_347 cw_L_45 (ct_X6_pair (l := l) (D := D) (z0 := (q 0)) (s0 := (q 1)) (s1 := (q 2)) (s2 := (q 3)) (s3 := (q 4)) (s4 := (q 5)) (v0 := (q 6)) (v1 := (q 15)) (l0 := (q 7)) (l1 := (q 8)) (l2 := (q 9)) (l3 := (q 10)) (g0 := (q 11)) (g1 := (q 12)) (g2 := (q 13)) (g3 := (q 14)) (d0 := (q 16)) (y0 := (q 23)) (b0 := (q 25)) (i0 := (q 29)) (i1 := (q 30)) (i2 := (q 31)) (i3 := (q 32)) (u := u) (o := o) (r := w) (cA := (sgF 0)) (lA := (sgF 1)) (mA := (sgF 2)) (cB := (sgF 3)) (lB := (sgF 4)) (mB := (sgF 5)) (ta := (sgF 6)) (sv := (sgI 0)) (ctA := (sgI 8)) (ctB := (sgI 9)) (cr := (sgI 1)) (cf := (sgI 2)) (pr := (sgI 3)) (jd := (sgI 4)) (kp := (sgI 5)) (ks := (sgI 6)) (kl := (sgI 7)) (sd := (nI s)) (c := (xs (i + 1))) (d := (xs (i + 2))) (what := (xs (i + 3))) hrow.1 hrow.2.2.1 ho ho2 hrow.2.1 hrow.cap hrow.lk hsr) 0 7 rfl (show ([7, 2, 3, 5, 6, 8] ++ [0, 1, 4, 9, 10, 11, 12, 13, 14, 15, 16, 17, 18, 19, 20, 21, 22, 23, 24] : List Nat).Perm (List.range 25) by decide) rfl rfl rfl rfl (fun ⟨_, _, _, _, _, _, _, _, _, _, _, _, _, _, _, _, _⟩ => rfl) (fun ⟨_, _, _, _, _, _, _, _, _, _, _, _, _, _, _, _, _⟩ => rfl) (fun ⟨_, _, _, _, _, _, _, _, _, _, _, _, _, _, _, _, _⟩ => rfl) ⟨by omega, by omega⟩ (Nat.le_of_ble_eq_true rfl) ⟨by omega, by omega⟩ (fun vgh ugh hp => ?_)
  obtain ⟨c_sv2, c_cr2, c_cf2, c_pr2, c_jd2, c_kp2, c_ks2, c_kl2, c_ctA2, c_ctB2, c_cA2, c_lA2, c_mA2, c_cB2, c_lB2, c_mB2, c_ta2⟩ := ugh
  obtain ⟨rfl, c_hsg2⟩ := hp
  show G X Q (lawS D q ad im w u fi pc rh vv (nI s) (fun (k : Nat) => ([c_sv2, c_cr2, c_cf2, c_pr2, c_jd2, c_kp2, c_ks2, c_kl2, c_ctA2, c_ctB2] : List Int32).getD k 0) (fun (k : Nat) => ([c_cA2, c_lA2, c_mA2, c_cB2, c_lB2, c_mB2, c_ta2] : List (Nat → Int32)).getD k (fun _ => 0)) sz t nx cl fn fa v ev wr bo bt bs ir iv iss ik wl w pc kp (nI s) iss t sz fa bo bt bs wr qn cn pa fl lo ln mwl).flatten (ce + 0) (sl + 0) 350 [some (.ref b), some (.ref (q 0)), some (.ref (q 40)), some (.int (nI i))] [.int (pairV w (xs (i + 1)) (xs (i + 2)) (xs (i + 3)))]
  refine g_aload_n hX dL_law_350 rfl ?_
  refine g_aload_n hX dL_law_351 rfl ?_
  refine g_iload_n hX dL_law_352 rfl ?_
  refine g_iconst hX dL_law_353 kn_i_1 ?_
  refine g_iaddN hX dL_law_354 ?_
  refine g_sld hX hs dL_law_355 hN (by omega) ?_
  refine g_aload_n hX dL_law_356 rfl ?_
  refine g_iload_n hX dL_law_357 rfl ?_
  refine g_iconst hX dL_law_358 kn_i_2 ?_
  refine g_iaddN hX dL_law_359 ?_
  refine g_sld hX hs dL_law_360 hN (by omega) ?_
  refine g_aload_n hX dL_law_361 rfl ?_
  refine g_iload_n hX dL_law_362 rfl ?_
  refine g_iconst hX dL_law_363 kn_i_3 ?_
  refine g_iaddN hX dL_law_364 ?_
  refine g_sld hX hs dL_law_365 hN (by omega) ?_
  refine g_callQ (segs := lawS D q ad im w u fi pc rh vv (nI s) (fun (k : Nat) => ([c_sv2, c_cr2, c_cf2, c_pr2, c_jd2, c_kp2, c_ks2, c_kl2, c_ctA2, c_ctB2] : List Int32).getD k 0) (fun (k : Nat) => ([c_cA2, c_lA2, c_mA2, c_cB2, c_lB2, c_mB2, c_ta2] : List (Nat → Int32)).getD k (fun _ => 0)) sz t nx cl fn fa v ev wr bo bt bs ir iv iss ik wl w pc kp (nI s) iss t sz fa bo bt bs wr qn cn pa fl lo ln mwl) (fun ugh => match ugh with | (m_V, m_Qn, m_Cn) => [gsM0 D q pc kp (nI s) sz fa wr pa fl ln, gsMw D q w, gsMq D q m_Qn, gsMc D q m_Cn]) [16, 17, 21, 22] [0, 1, 2, 3, 4, 5, 6, 7, 8, 9, 10, 11, 12, 13, 14, 15, 18, 19, 20, 23, 24] hX dL_law_366 cw_L_48 (ct_X7_pair (l := l) (D := D) (a0 := (q 40)) (a1 := (q 41)) (a2 := (q 42)) (a3 := (q 43)) (a4 := (q 44)) (a5 := (q 45)) (a6 := (q 46)) (a7 := (q 47)) (a8 := (q 48)) (a9 := (q 49)) (a10 := (q 50)) (uk := pc) (sz := sz) (wr := wr) (pa := pa) (fl := fl) (ln := ln) (kp := kp) (sd := (nI s)) (fa := fa) (w := w) (q := qn) (cl := cn) (c := (xs (i + 1))) (d := (xs (i + 2))) (what := (xs (i + 3))) ) 0 8 rfl (show ([16, 17, 21, 22] ++ [0, 1, 2, 3, 4, 5, 6, 7, 8, 9, 10, 11, 12, 13, 14, 15, 18, 19, 20, 23, 24] : List Nat).Perm (List.range 25) by decide) rfl rfl rfl rfl (fun ⟨_, _, _⟩ => rfl) (fun ⟨_, _, _⟩ => rfl) (fun ⟨_, _, _⟩ => rfl) ⟨by omega, by omega⟩ (Nat.le_of_ble_eq_true rfl) ⟨by omega, by omega⟩ (fun vgh ugh hp => ?_)
  obtain ⟨m_V, m_Qn, m_Cn⟩ := ugh
  obtain ⟨rfl, m_hv⟩ := hp
  show G X Q (lawS D q ad im w u fi pc rh vv (nI s) (fun (k : Nat) => ([c_sv2, c_cr2, c_cf2, c_pr2, c_jd2, c_kp2, c_ks2, c_kl2, c_ctA2, c_ctB2] : List Int32).getD k 0) (fun (k : Nat) => ([c_cA2, c_lA2, c_mA2, c_cB2, c_lB2, c_mB2, c_ta2] : List (Nat → Int32)).getD k (fun _ => 0)) sz t nx cl fn fa v ev wr bo bt bs ir iv iss ik wl w pc kp (nI s) iss t sz fa bo bt bs wr m_Qn m_Cn pa fl lo ln mwl).flatten (ce + 0 + 0) (sl + 0 + 0) 369 [some (.ref b), some (.ref (q 0)), some (.ref (q 40)), some (.int (nI i))] [.int m_V, .int (pairV w (xs (i + 1)) (xs (i + 2)) (xs (i + 3)))]
  refine g_icmp_eq (tgt := 881) hX dL_law_369 (by decide) (fun _ => ?_) (fun h => absurd m_hv.symm h)
  exact kk w u fi pc rh vv s (fun (k : Nat) => ([c_sv2, c_cr2, c_cf2, c_pr2, c_jd2, c_kp2, c_ks2, c_kl2, c_ctA2, c_ctB2] : List Int32).getD k 0) (fun (k : Nat) => ([c_cA2, c_lA2, c_mA2, c_cB2, c_lB2, c_mB2, c_ta2] : List (Nat → Int32)).getD k (fun _ => 0)) sz t nx cl fn fa v ev wr bo bt bs ir iv iss ik wl kp m_Qn m_Cn pa fl lo ln mwl _ _ (by omega) (by omega) (by omega) ⟨hc, him, c_hsg2, hsz, ht, hwr, hss⟩
set_option maxRecDepth 100000 in
set_option maxHeartbeats 4000000 in
theorem lop_cell {X : CT} {l : Launch} {D : va_G} {nm : String} {rt : Option FieldType} {rf rl mc ms : Nat} {Q : State → Prop} {b N i ce sl : Nat} {xs : Nat → Int32} {q ad im : Nat → Nat} {w : Nat → Int32} {u fi pc : Nat} {rh : Nat → Nat → Int32} {vv : Nat → Int32} {s : Nat} {sgI : Nat → Int32} {sgF : Nat → Nat → Int32} {sz : Nat} {t : Nat → Nat} {nx cl fn fa : Int32} {v : Nat → Int32} {ev : Int32} {wr : Nat} {bo bt bs : Nat → Int32} {ir : Nat → Nat → Int32} {iv iss ik wl : Nat → Int32} {kp : Int32} {qn cn : Nat → Int32} {pa fl : Nat} {lo : Nat → Int32} {ln : Nat} {mwl : Nat → Int32} (hX : CX X l D RL nm cL_law 4 rt rf rl mc ms) (hs : SX X b N xs) (hN : N < 2147483648) (hi : i + 7 ≤ N) (hrm : 40 ≤ rf ∧ 2000 ≤ rl) (hcs : ce + 2 ≤ mc ∧ sl + 20 ≤ ms) (hu : u < 1000000) (hI : LInv w u fi pc rh s sgI sgF sz t wr kp ir iss ik) (kk : Nxt X Q D q ad im b i u ce sl) : G X Q (lawC D q ad im w u fi pc rh vv s sgI sgF sz t nx cl fn fa v ev wr bo bt bs ir iv iss ik wl kp qn cn pa fl lo ln mwl) ce sl 374 [some (.ref b), some (.ref (q 0)), some (.ref (q 40)), some (.int (nI i))] [] := by
  obtain ⟨hc, him, hsg, hsz, ht, hwr, hss⟩ := hI
  show G X Q (lawS D q ad im w u fi pc rh vv (nI s) sgI sgF sz t nx cl fn fa v ev wr bo bt bs ir iv iss ik wl w pc kp (nI s) iss t sz fa bo bt bs wr qn cn pa fl lo ln mwl).flatten ce sl 374 [some (.ref b), some (.ref (q 0)), some (.ref (q 40)), some (.int (nI i))] []
  have hrow : rowOK w := hc.row
  have hsr := hsg
  obtain ⟨o, ho2, ho⟩ := hrow.2.2.2.2.1
  refine g_aload_n hX dL_law_374 rfl ?_
  refine g_aload_n hX dL_law_375 rfl ?_
  refine g_iload_n hX dL_law_376 rfl ?_
  refine g_iconst hX dL_law_377 kn_i_1 ?_
  refine g_iaddN hX dL_law_378 ?_
  refine g_sld hX hs dL_law_379 hN (by omega) ?_
  refine g_aload_n hX dL_law_380 rfl ?_
  refine g_iload_n hX dL_law_381 rfl ?_
  refine g_iconst hX dL_law_382 kn_i_2 ?_
  refine g_iaddN hX dL_law_383 ?_
  refine g_sld hX hs dL_law_384 hN (by omega) ?_
  refine g_aload_n hX dL_law_385 rfl ?_
  refine g_iload_n hX dL_law_386 rfl ?_
  refine g_iconst hX dL_law_387 kn_i_3 ?_
  refine g_iaddN hX dL_law_388 ?_
  refine g_sld hX hs dL_law_389 hN (by omega) ?_
  refine g_callQ (segs := lawS D q ad im w u fi pc rh vv (nI s) sgI sgF sz t nx cl fn fa v ev wr bo bt bs ir iv iss ik wl w pc kp (nI s) iss t sz fa bo bt bs wr qn cn pa fl lo ln mwl) (fun ugh => match ugh with | (c_sv2, c_cr2, c_cf2, c_pr2, c_jd2, c_kp2, c_ks2, c_kl2, c_ctA2, c_ctB2, c_cA2, c_lA2, c_mA2, c_cB2, c_lB2, c_mB2, c_ta2) => [gsT D q (nI s), gsN0 D q w u, gsNE D q w, gsNT D q w, gsNG D q w, gsSG D q (fun (k : Nat) => ([c_sv2, c_cr2, c_cf2, c_pr2, c_jd2, c_kp2, c_ks2, c_kl2, c_ctA2, c_ctB2] : List Int32).getD k 0) (fun (k : Nat) => ([c_cA2, c_lA2, c_mA2, c_cB2, c_lB2, c_mB2, c_ta2] : List (Nat → Int32)).getD k (fun _ => 0))]) [7, 2, 3, 5, 6, 8] [0, 1, 4, 9, 10, 11, 12, 13, 14, 15, 16, 17, 18, 19, 20, 21, 22, 23, 24] hX dL_law_390 cw_L_49 (ct_X6_cell (l := l) (D := D) (z0 := (q 0)) (s0 := (q 1)) (s1 := (q 2)) (s2 := (q 3)) (s3 := (q 4)) (s4 := (q 5)) (v0 := (q 6)) (v1 := (q 15)) (l0 := (q 7)) (l1 := (q 8)) (l2 := (q 9)) (l3 := (q 10)) (g0 := (q 11)) (g1 := (q 12)) (g2 := (q 13)) (g3 := (q 14)) (d0 := (q 16)) (y0 := (q 23)) (b0 := (q 25)) (i0 := (q 29)) (i1 := (q 30)) (i2 := (q 31)) (i3 := (q 32)) (u := u) (o := o) (r := w) (cA := (sgF 0)) (lA := (sgF 1)) (mA := (sgF 2)) (cB := (sgF 3)) (lB := (sgF 4)) (mB := (sgF 5)) (ta := (sgF 6)) (sv := (sgI 0)) (ctA := (sgI 8)) (ctB := (sgI 9)) (cr := (sgI 1)) (cf := (sgI 2)) (pr := (sgI 3)) (jd := (sgI 4)) (kp := (sgI 5)) (ks := (sgI 6)) (kl := (sgI 7)) (sd := (nI s)) (i := (xs (i + 1))) (j := (xs (i + 2))) (what := (xs (i + 3))) hrow.1 hrow.2.2.1 ho ho2 hrow.2.1 hrow.cap hrow.lk hsr) 0 7 rfl (show ([7, 2, 3, 5, 6, 8] ++ [0, 1, 4, 9, 10, 11, 12, 13, 14, 15, 16, 17, 18, 19, 20, 21, 22, 23, 24] : List Nat).Perm (List.range 25) by decide) rfl rfl rfl rfl (fun ⟨_, _, _, _, _, _, _, _, _, _, _, _, _, _, _, _, _⟩ => rfl) (fun ⟨_, _, _, _, _, _, _, _, _, _, _, _, _, _, _, _, _⟩ => rfl) (fun ⟨_, _, _, _, _, _, _, _, _, _, _, _, _, _, _, _, _⟩ => rfl) ⟨by omega, by omega⟩ (Nat.le_of_ble_eq_true rfl) ⟨by omega, by omega⟩ (fun vgh ugh hp => ?_)
  obtain ⟨c_sv2, c_cr2, c_cf2, c_pr2, c_jd2, c_kp2, c_ks2, c_kl2, c_ctA2, c_ctB2, c_cA2, c_lA2, c_mA2, c_cB2, c_lB2, c_mB2, c_ta2⟩ := ugh
  obtain ⟨rfl, c_hsg2⟩ := hp
  show G X Q (lawS D q ad im w u fi pc rh vv (nI s) (fun (k : Nat) => ([c_sv2, c_cr2, c_cf2, c_pr2, c_jd2, c_kp2, c_ks2, c_kl2, c_ctA2, c_ctB2] : List Int32).getD k 0) (fun (k : Nat) => ([c_cA2, c_lA2, c_mA2, c_cB2, c_lB2, c_mB2, c_ta2] : List (Nat → Int32)).getD k (fun _ => 0)) sz t nx cl fn fa v ev wr bo bt bs ir iv iss ik wl w pc kp (nI s) iss t sz fa bo bt bs wr qn cn pa fl lo ln mwl).flatten (ce + 0) (sl + 0) 393 [some (.ref b), some (.ref (q 0)), some (.ref (q 40)), some (.int (nI i))] [.int (cellV w (xs (i + 1)) (xs (i + 2)) (xs (i + 3)))]
  refine g_aload_n hX dL_law_393 rfl ?_
  refine g_aload_n hX dL_law_394 rfl ?_
  refine g_iload_n hX dL_law_395 rfl ?_
  refine g_iconst hX dL_law_396 kn_i_1 ?_
  refine g_iaddN hX dL_law_397 ?_
  refine g_sld hX hs dL_law_398 hN (by omega) ?_
  refine g_aload_n hX dL_law_399 rfl ?_
  refine g_iload_n hX dL_law_400 rfl ?_
  refine g_iconst hX dL_law_401 kn_i_2 ?_
  refine g_iaddN hX dL_law_402 ?_
  refine g_sld hX hs dL_law_403 hN (by omega) ?_
  refine g_aload_n hX dL_law_404 rfl ?_
  refine g_iload_n hX dL_law_405 rfl ?_
  refine g_iconst hX dL_law_406 kn_i_3 ?_
  refine g_iaddN hX dL_law_407 ?_
  refine g_sld hX hs dL_law_408 hN (by omega) ?_
  refine g_callQ (segs := lawS D q ad im w u fi pc rh vv (nI s) (fun (k : Nat) => ([c_sv2, c_cr2, c_cf2, c_pr2, c_jd2, c_kp2, c_ks2, c_kl2, c_ctA2, c_ctB2] : List Int32).getD k 0) (fun (k : Nat) => ([c_cA2, c_lA2, c_mA2, c_cB2, c_lB2, c_mB2, c_ta2] : List (Nat → Int32)).getD k (fun _ => 0)) sz t nx cl fn fa v ev wr bo bt bs ir iv iss ik wl w pc kp (nI s) iss t sz fa bo bt bs wr qn cn pa fl lo ln mwl) (fun ugh => match ugh with | (m_V, m_Qn, m_Cn) => [gsM0 D q pc kp (nI s) sz fa wr pa fl ln, gsMw D q w, gsMq D q m_Qn, gsMc D q m_Cn]) [16, 17, 21, 22] [0, 1, 2, 3, 4, 5, 6, 7, 8, 9, 10, 11, 12, 13, 14, 15, 18, 19, 20, 23, 24] hX dL_law_409 cw_L_52 (ct_X7_cell (l := l) (D := D) (a0 := (q 40)) (a1 := (q 41)) (a2 := (q 42)) (a3 := (q 43)) (a4 := (q 44)) (a5 := (q 45)) (a6 := (q 46)) (a7 := (q 47)) (a8 := (q 48)) (a9 := (q 49)) (a10 := (q 50)) (uk := pc) (sz := sz) (wr := wr) (pa := pa) (fl := fl) (ln := ln) (kp := kp) (sd := (nI s)) (fa := fa) (w := w) (q := qn) (cl := cn) (i := (xs (i + 1))) (j := (xs (i + 2))) (what := (xs (i + 3))) hc.row.1) 0 8 rfl (show ([16, 17, 21, 22] ++ [0, 1, 2, 3, 4, 5, 6, 7, 8, 9, 10, 11, 12, 13, 14, 15, 18, 19, 20, 23, 24] : List Nat).Perm (List.range 25) by decide) rfl rfl rfl rfl (fun ⟨_, _, _⟩ => rfl) (fun ⟨_, _, _⟩ => rfl) (fun ⟨_, _, _⟩ => rfl) ⟨by omega, by omega⟩ (Nat.le_of_ble_eq_true rfl) ⟨by omega, by omega⟩ (fun vgh ugh hp => ?_)
  obtain ⟨m_V, m_Qn, m_Cn⟩ := ugh
  obtain ⟨rfl, m_hv⟩ := hp
  show G X Q (lawS D q ad im w u fi pc rh vv (nI s) (fun (k : Nat) => ([c_sv2, c_cr2, c_cf2, c_pr2, c_jd2, c_kp2, c_ks2, c_kl2, c_ctA2, c_ctB2] : List Int32).getD k 0) (fun (k : Nat) => ([c_cA2, c_lA2, c_mA2, c_cB2, c_lB2, c_mB2, c_ta2] : List (Nat → Int32)).getD k (fun _ => 0)) sz t nx cl fn fa v ev wr bo bt bs ir iv iss ik wl w pc kp (nI s) iss t sz fa bo bt bs wr m_Qn m_Cn pa fl lo ln mwl).flatten (ce + 0 + 0) (sl + 0 + 0) 412 [some (.ref b), some (.ref (q 0)), some (.ref (q 40)), some (.int (nI i))] [.int m_V, .int (cellV w (xs (i + 1)) (xs (i + 2)) (xs (i + 3)))]
  refine g_icmp_eq (tgt := 881) hX dL_law_412 (by decide) (fun _ => ?_) (fun h => absurd m_hv.symm h)
  exact kk w u fi pc rh vv s (fun (k : Nat) => ([c_sv2, c_cr2, c_cf2, c_pr2, c_jd2, c_kp2, c_ks2, c_kl2, c_ctA2, c_ctB2] : List Int32).getD k 0) (fun (k : Nat) => ([c_cA2, c_lA2, c_mA2, c_cB2, c_lB2, c_mB2, c_ta2] : List (Nat → Int32)).getD k (fun _ => 0)) sz t nx cl fn fa v ev wr bo bt bs ir iv iss ik wl kp m_Qn m_Cn pa fl lo ln mwl _ _ (by omega) (by omega) (by omega) ⟨hc, him, c_hsg2, hsz, ht, hwr, hss⟩
set_option maxRecDepth 100000 in
set_option maxHeartbeats 4000000 in
theorem lop_line {X : CT} {l : Launch} {D : va_G} {nm : String} {rt : Option FieldType} {rf rl mc ms : Nat} {Q : State → Prop} {b N i ce sl : Nat} {xs : Nat → Int32} {q ad im : Nat → Nat} {w : Nat → Int32} {u fi pc : Nat} {rh : Nat → Nat → Int32} {vv : Nat → Int32} {s : Nat} {sgI : Nat → Int32} {sgF : Nat → Nat → Int32} {sz : Nat} {t : Nat → Nat} {nx cl fn fa : Int32} {v : Nat → Int32} {ev : Int32} {wr : Nat} {bo bt bs : Nat → Int32} {ir : Nat → Nat → Int32} {iv iss ik wl : Nat → Int32} {kp : Int32} {qn cn : Nat → Int32} {pa fl : Nat} {lo : Nat → Int32} {ln : Nat} {mwl : Nat → Int32} (hX : CX X l D RL nm cL_law 4 rt rf rl mc ms) (hs : SX X b N xs) (hN : N < 2147483648) (hi : i + 7 ≤ N) (hrm : 40 ≤ rf ∧ 2000 ≤ rl) (hcs : ce + 2 ≤ mc ∧ sl + 20 ≤ ms) (hu : u < 1000000) (hI : LInv w u fi pc rh s sgI sgF sz t wr kp ir iss ik) (kk : Nxt X Q D q ad im b i u ce sl) : G X Q (lawC D q ad im w u fi pc rh vv s sgI sgF sz t nx cl fn fa v ev wr bo bt bs ir iv iss ik wl kp qn cn pa fl lo ln mwl) ce sl 417 [some (.ref b), some (.ref (q 0)), some (.ref (q 40)), some (.int (nI i))] [] := by
  obtain ⟨hc, him, hsg, hsz, ht, hwr, hss⟩ := hI
  show G X Q (lawS D q ad im w u fi pc rh vv (nI s) sgI sgF sz t nx cl fn fa v ev wr bo bt bs ir iv iss ik wl w pc kp (nI s) iss t sz fa bo bt bs wr qn cn pa fl lo ln mwl).flatten ce sl 417 [some (.ref b), some (.ref (q 0)), some (.ref (q 40)), some (.int (nI i))] []
  have hrow : rowOK w := hc.row
  have hsr := hsg
  obtain ⟨o, ho2, ho⟩ := hrow.2.2.2.2.1
  refine g_aload_n hX dL_law_417 rfl ?_
  refine g_aload_n hX dL_law_418 rfl ?_
  refine g_iload_n hX dL_law_419 rfl ?_
  refine g_iconst hX dL_law_420 kn_i_1 ?_
  refine g_iaddN hX dL_law_421 ?_
  refine g_sld hX hs dL_law_422 hN (by omega) ?_
  refine g_aload_n hX dL_law_423 rfl ?_
  refine g_iload_n hX dL_law_424 rfl ?_
  refine g_iconst hX dL_law_425 kn_i_2 ?_
  refine g_iaddN hX dL_law_426 ?_
  refine g_sld hX hs dL_law_427 hN (by omega) ?_
  refine g_callQ (segs := lawS D q ad im w u fi pc rh vv (nI s) sgI sgF sz t nx cl fn fa v ev wr bo bt bs ir iv iss ik wl w pc kp (nI s) iss t sz fa bo bt bs wr qn cn pa fl lo ln mwl) (fun ugh => match ugh with | (c_sv2, c_cr2, c_cf2, c_pr2, c_jd2, c_kp2, c_ks2, c_kl2, c_ctA2, c_ctB2, c_cA2, c_lA2, c_mA2, c_cB2, c_lB2, c_mB2, c_ta2) => [gsT D q (nI s), gsN0 D q w u, gsNE D q w, gsNT D q w, gsNG D q w, gsSG D q (fun (k : Nat) => ([c_sv2, c_cr2, c_cf2, c_pr2, c_jd2, c_kp2, c_ks2, c_kl2, c_ctA2, c_ctB2] : List Int32).getD k 0) (fun (k : Nat) => ([c_cA2, c_lA2, c_mA2, c_cB2, c_lB2, c_mB2, c_ta2] : List (Nat → Int32)).getD k (fun _ => 0))]) [7, 2, 3, 5, 6, 8] [0, 1, 4, 9, 10, 11, 12, 13, 14, 15, 16, 17, 18, 19, 20, 21, 22, 23, 24] hX dL_law_428 cw_L_53 (ct_X6_line (l := l) (D := D) (z0 := (q 0)) (s0 := (q 1)) (s1 := (q 2)) (s2 := (q 3)) (s3 := (q 4)) (s4 := (q 5)) (v0 := (q 6)) (v1 := (q 15)) (l0 := (q 7)) (l1 := (q 8)) (l2 := (q 9)) (l3 := (q 10)) (g0 := (q 11)) (g1 := (q 12)) (g2 := (q 13)) (g3 := (q 14)) (d0 := (q 16)) (y0 := (q 23)) (b0 := (q 25)) (i0 := (q 29)) (i1 := (q 30)) (i2 := (q 31)) (i3 := (q 32)) (u := u) (o := o) (r := w) (cA := (sgF 0)) (lA := (sgF 1)) (mA := (sgF 2)) (cB := (sgF 3)) (lB := (sgF 4)) (mB := (sgF 5)) (ta := (sgF 6)) (sv := (sgI 0)) (ctA := (sgI 8)) (ctB := (sgI 9)) (cr := (sgI 1)) (cf := (sgI 2)) (pr := (sgI 3)) (jd := (sgI 4)) (kp := (sgI 5)) (ks := (sgI 6)) (kl := (sgI 7)) (sd := (nI s)) (ln := (xs (i + 1))) (ka := (xs (i + 2))) hrow.1 hrow.2.2.1 ho ho2 hrow.2.1 hrow.cap hrow.lk hsr) 0 7 rfl (show ([7, 2, 3, 5, 6, 8] ++ [0, 1, 4, 9, 10, 11, 12, 13, 14, 15, 16, 17, 18, 19, 20, 21, 22, 23, 24] : List Nat).Perm (List.range 25) by decide) rfl rfl rfl rfl (fun ⟨_, _, _, _, _, _, _, _, _, _, _, _, _, _, _, _, _⟩ => rfl) (fun ⟨_, _, _, _, _, _, _, _, _, _, _, _, _, _, _, _, _⟩ => rfl) (fun ⟨_, _, _, _, _, _, _, _, _, _, _, _, _, _, _, _, _⟩ => rfl) ⟨by omega, by omega⟩ (Nat.le_of_ble_eq_true rfl) ⟨by omega, by omega⟩ (fun vgh ugh hp => ?_)
  obtain ⟨c_sv2, c_cr2, c_cf2, c_pr2, c_jd2, c_kp2, c_ks2, c_kl2, c_ctA2, c_ctB2, c_cA2, c_lA2, c_mA2, c_cB2, c_lB2, c_mB2, c_ta2⟩ := ugh
  obtain ⟨rfl, c_hsg2⟩ := hp
  show G X Q (lawS D q ad im w u fi pc rh vv (nI s) (fun (k : Nat) => ([c_sv2, c_cr2, c_cf2, c_pr2, c_jd2, c_kp2, c_ks2, c_kl2, c_ctA2, c_ctB2] : List Int32).getD k 0) (fun (k : Nat) => ([c_cA2, c_lA2, c_mA2, c_cB2, c_lB2, c_mB2, c_ta2] : List (Nat → Int32)).getD k (fun _ => 0)) sz t nx cl fn fa v ev wr bo bt bs ir iv iss ik wl w pc kp (nI s) iss t sz fa bo bt bs wr qn cn pa fl lo ln mwl).flatten (ce + 2) (sl + 20) 431 [some (.ref b), some (.ref (q 0)), some (.ref (q 40)), some (.int (nI i))] [.int (lineV w (xs (i + 1)) (xs (i + 2)))]
  refine g_aload_n hX dL_law_431 rfl ?_
  refine g_aload_n hX dL_law_432 rfl ?_
  refine g_iload_n hX dL_law_433 rfl ?_
  refine g_iconst hX dL_law_434 kn_i_1 ?_
  refine g_iaddN hX dL_law_435 ?_
  refine g_sld hX hs dL_law_436 hN (by omega) ?_
  refine g_aload_n hX dL_law_437 rfl ?_
  refine g_iload_n hX dL_law_438 rfl ?_
  refine g_iconst hX dL_law_439 kn_i_2 ?_
  refine g_iaddN hX dL_law_440 ?_
  refine g_sld hX hs dL_law_441 hN (by omega) ?_
  refine g_callQ (segs := lawS D q ad im w u fi pc rh vv (nI s) (fun (k : Nat) => ([c_sv2, c_cr2, c_cf2, c_pr2, c_jd2, c_kp2, c_ks2, c_kl2, c_ctA2, c_ctB2] : List Int32).getD k 0) (fun (k : Nat) => ([c_cA2, c_lA2, c_mA2, c_cB2, c_lB2, c_mB2, c_ta2] : List (Nat → Int32)).getD k (fun _ => 0)) sz t nx cl fn fa v ev wr bo bt bs ir iv iss ik wl w pc kp (nI s) iss t sz fa bo bt bs wr qn cn pa fl lo ln mwl) (fun ugh => match ugh with | (m_V, m_Qn, m_Cn, m_Lo, m_Ln) => [gsM0 D q pc kp (nI s) sz fa wr pa fl m_Ln, gsMw D q w, gsMq D q m_Qn, gsMc D q m_Cn, gsMl D q m_Lo]) [16, 17, 21, 22, 23] [0, 1, 2, 3, 4, 5, 6, 7, 8, 9, 10, 11, 12, 13, 14, 15, 18, 19, 20, 24] hX dL_law_442 cw_L_56 (ct_X7_line (l := l) (D := D) (a0 := (q 40)) (a1 := (q 41)) (a2 := (q 42)) (a3 := (q 43)) (a4 := (q 44)) (a5 := (q 45)) (a6 := (q 46)) (a7 := (q 47)) (a8 := (q 48)) (a9 := (q 49)) (a10 := (q 50)) (uk := pc) (sz := sz) (wr := wr) (pa := pa) (fl := fl) (ln := ln) (kp := kp) (sd := (nI s)) (fa := fa) (w := w) (q := qn) (cl := cn) (lo := lo) (k := (xs (i + 1))) (a := (xs (i + 2))) ) 0 8 rfl (show ([16, 17, 21, 22, 23] ++ [0, 1, 2, 3, 4, 5, 6, 7, 8, 9, 10, 11, 12, 13, 14, 15, 18, 19, 20, 24] : List Nat).Perm (List.range 25) by decide) rfl rfl rfl rfl (fun ⟨_, _, _, _, _⟩ => rfl) (fun ⟨_, _, _, _, _⟩ => rfl) (fun ⟨_, _, _, _, _⟩ => rfl) ⟨by omega, by omega⟩ (Nat.le_of_ble_eq_true rfl) ⟨by omega, by omega⟩ (fun vgh ugh hp => ?_)
  obtain ⟨m_V, m_Qn, m_Cn, m_Lo, m_Ln⟩ := ugh
  obtain ⟨rfl, m_hv⟩ := hp
  show G X Q (lawS D q ad im w u fi pc rh vv (nI s) (fun (k : Nat) => ([c_sv2, c_cr2, c_cf2, c_pr2, c_jd2, c_kp2, c_ks2, c_kl2, c_ctA2, c_ctB2] : List Int32).getD k 0) (fun (k : Nat) => ([c_cA2, c_lA2, c_mA2, c_cB2, c_lB2, c_mB2, c_ta2] : List (Nat → Int32)).getD k (fun _ => 0)) sz t nx cl fn fa v ev wr bo bt bs ir iv iss ik wl w pc kp (nI s) iss t sz fa bo bt bs wr m_Qn m_Cn pa fl m_Lo m_Ln mwl).flatten (ce + 2 + 0) (sl + 20 + 0) 445 [some (.ref b), some (.ref (q 0)), some (.ref (q 40)), some (.int (nI i))] [.int m_V, .int (lineV w (xs (i + 1)) (xs (i + 2)))]
  refine g_icmp_eq (tgt := 881) hX dL_law_445 (by decide) (fun _ => ?_) (fun h => absurd m_hv.symm h)
  exact kk w u fi pc rh vv s (fun (k : Nat) => ([c_sv2, c_cr2, c_cf2, c_pr2, c_jd2, c_kp2, c_ks2, c_kl2, c_ctA2, c_ctB2] : List Int32).getD k 0) (fun (k : Nat) => ([c_cA2, c_lA2, c_mA2, c_cB2, c_lB2, c_mB2, c_ta2] : List (Nat → Int32)).getD k (fun _ => 0)) sz t nx cl fn fa v ev wr bo bt bs ir iv iss ik wl kp m_Qn m_Cn pa fl m_Lo m_Ln mwl _ _ (by omega) (by omega) (by omega) ⟨hc, him, c_hsg2, hsz, ht, hwr, hss⟩
set_option maxRecDepth 100000 in
set_option maxHeartbeats 4000000 in
theorem lop_word {X : CT} {l : Launch} {D : va_G} {nm : String} {rt : Option FieldType} {rf rl mc ms : Nat} {Q : State → Prop} {b N i ce sl : Nat} {xs : Nat → Int32} {q ad im : Nat → Nat} {w : Nat → Int32} {u fi pc : Nat} {rh : Nat → Nat → Int32} {vv : Nat → Int32} {s : Nat} {sgI : Nat → Int32} {sgF : Nat → Nat → Int32} {sz : Nat} {t : Nat → Nat} {nx cl fn fa : Int32} {v : Nat → Int32} {ev : Int32} {wr : Nat} {bo bt bs : Nat → Int32} {ir : Nat → Nat → Int32} {iv iss ik wl : Nat → Int32} {kp : Int32} {qn cn : Nat → Int32} {pa fl : Nat} {lo : Nat → Int32} {ln : Nat} {mwl : Nat → Int32} (hX : CX X l D RL nm cL_law 4 rt rf rl mc ms) (hs : SX X b N xs) (hN : N < 2147483648) (hi : i + 7 ≤ N) (hrm : 40 ≤ rf ∧ 2000 ≤ rl) (hcs : ce + 2 ≤ mc ∧ sl + 20 ≤ ms) (hu : u < 1000000) (hI : LInv w u fi pc rh s sgI sgF sz t wr kp ir iss ik) (kk : Nxt X Q D q ad im b i u ce sl) : G X Q (lawC D q ad im w u fi pc rh vv s sgI sgF sz t nx cl fn fa v ev wr bo bt bs ir iv iss ik wl kp qn cn pa fl lo ln mwl) ce sl 450 [some (.ref b), some (.ref (q 0)), some (.ref (q 40)), some (.int (nI i))] [] := by
  obtain ⟨hc, him, hsg, hsz, ht, hwr, hss⟩ := hI
  show G X Q (lawS D q ad im w u fi pc rh vv (nI s) sgI sgF sz t nx cl fn fa v ev wr bo bt bs ir iv iss ik wl w pc kp (nI s) iss t sz fa bo bt bs wr qn cn pa fl lo ln mwl).flatten ce sl 450 [some (.ref b), some (.ref (q 0)), some (.ref (q 40)), some (.int (nI i))] []
  have hrow : rowOK w := hc.row
  have hsr := hsg
  obtain ⟨o, ho2, ho⟩ := hrow.2.2.2.2.1
  refine g_aload_n hX dL_law_450 rfl ?_
  refine g_aload_n hX dL_law_451 rfl ?_
  refine g_iload_n hX dL_law_452 rfl ?_
  refine g_iconst hX dL_law_453 kn_i_1 ?_
  refine g_iaddN hX dL_law_454 ?_
  refine g_sld hX hs dL_law_455 hN (by omega) ?_
  refine g_aload_n hX dL_law_456 rfl ?_
  refine g_iload_n hX dL_law_457 rfl ?_
  refine g_iconst hX dL_law_458 kn_i_2 ?_
  refine g_iaddN hX dL_law_459 ?_
  refine g_sld hX hs dL_law_460 hN (by omega) ?_
  refine g_aload_n hX dL_law_461 rfl ?_
  refine g_iload_n hX dL_law_462 rfl ?_
  refine g_iconst hX dL_law_463 kn_i_3 ?_
  refine g_iaddN hX dL_law_464 ?_
  refine g_sld hX hs dL_law_465 hN (by omega) ?_
  refine g_aload_n hX dL_law_466 rfl ?_
  refine g_iload_n hX dL_law_467 rfl ?_
  refine g_iconst hX dL_law_468 kn_i_4 ?_
  refine g_iaddN hX dL_law_469 ?_
  refine g_sld hX hs dL_law_470 hN (by omega) ?_
  refine g_aload_n hX dL_law_471 rfl ?_
  refine g_iload_n hX dL_law_472 rfl ?_
  refine g_iconst hX dL_law_473 kn_i_5 ?_
  refine g_iaddN hX dL_law_474 ?_
  refine g_sld hX hs dL_law_475 hN (by omega) ?_
  refine g_aload_n hX dL_law_476 rfl ?_
  refine g_iload_n hX dL_law_477 rfl ?_
  refine g_bipush hX dL_law_478 kn_b_6 ?_
  refine g_iaddN hX dL_law_480 ?_
  refine g_sld hX hs dL_law_481 hN (by omega) ?_
  refine g_callQ (segs := lawS D q ad im w u fi pc rh vv (nI s) sgI sgF sz t nx cl fn fa v ev wr bo bt bs ir iv iss ik wl w pc kp (nI s) iss t sz fa bo bt bs wr qn cn pa fl lo ln mwl) (fun ugh => match ugh with | (c_sv2, c_cr2, c_cf2, c_pr2, c_jd2, c_kp2, c_ks2, c_kl2, c_ctA2, c_ctB2, c_cA2, c_lA2, c_mA2, c_cB2, c_lB2, c_mB2, c_ta2, c_Wl) => [gsT D q (nI s), gsWL D q c_Wl, gsN0 D q w u, gsNE D q w, gsNB D q w, gsNT D q w, gsNG D q w, gsSG D q (fun (k : Nat) => ([c_sv2, c_cr2, c_cf2, c_pr2, c_jd2, c_kp2, c_ks2, c_kl2, c_ctA2, c_ctB2] : List Int32).getD k 0) (fun (k : Nat) => ([c_cA2, c_lA2, c_mA2, c_cB2, c_lB2, c_mB2, c_ta2] : List (Nat → Int32)).getD k (fun _ => 0))]) [7, 15, 2, 3, 4, 5, 6, 8] [0, 1, 9, 10, 11, 12, 13, 14, 16, 17, 18, 19, 20, 21, 22, 23, 24] hX dL_law_482 cw_L_57 (ct_X6_word (l := l) (D := D) (z0 := (q 0)) (s0 := (q 1)) (s1 := (q 2)) (s2 := (q 3)) (s3 := (q 4)) (s4 := (q 5)) (v0 := (q 6)) (v1 := (q 15)) (l0 := (q 7)) (l1 := (q 8)) (l2 := (q 9)) (l3 := (q 10)) (g0 := (q 11)) (g1 := (q 12)) (g2 := (q 13)) (g3 := (q 14)) (d0 := (q 16)) (y0 := (q 23)) (b0 := (q 25)) (i0 := (q 29)) (i1 := (q 30)) (i2 := (q 31)) (i3 := (q 32)) (u := u) (o := o) (r := w) (cA := (sgF 0)) (lA := (sgF 1)) (mA := (sgF 2)) (cB := (sgF 3)) (lB := (sgF 4)) (mB := (sgF 5)) (ta := (sgF 6)) (sv := (sgI 0)) (ctA := (sgI 8)) (ctB := (sgI 9)) (cr := (sgI 1)) (cf := (sgI 2)) (pr := (sgI 3)) (jd := (sgI 4)) (kp := (sgI 5)) (ks := (sgI 6)) (kl := (sgI 7)) (sd := (nI s)) (wl := wl) (n := (xs (i + 1))) (a := (xs (i + 2))) (b := (xs (i + 3))) (c := (xs (i + 4))) (d := (xs (i + 5))) (e := (xs (i + 6))) hrow.1 hrow.2.2.1 ho ho2 hrow.2.1 hrow.cap hrow.lk hsr) 0 7 rfl (show ([7, 15, 2, 3, 4, 5, 6, 8] ++ [0, 1, 9, 10, 11, 12, 13, 14, 16, 17, 18, 19, 20, 21, 22, 23, 24] : List Nat).Perm (List.range 25) by decide) rfl rfl rfl rfl (fun ⟨_, _, _, _, _, _, _, _, _, _, _, _, _, _, _, _, _, _⟩ => rfl) (fun ⟨_, _, _, _, _, _, _, _, _, _, _, _, _, _, _, _, _, _⟩ => rfl) (fun ⟨_, _, _, _, _, _, _, _, _, _, _, _, _, _, _, _, _, _⟩ => rfl) ⟨by omega, by omega⟩ (Nat.le_of_ble_eq_true rfl) ⟨by omega, by omega⟩ (fun vgh ugh hp => ?_)
  obtain ⟨c_sv2, c_cr2, c_cf2, c_pr2, c_jd2, c_kp2, c_ks2, c_kl2, c_ctA2, c_ctB2, c_cA2, c_lA2, c_mA2, c_cB2, c_lB2, c_mB2, c_ta2, c_Wl⟩ := ugh
  obtain ⟨rfl, c_hsg2⟩ := hp
  show G X Q (lawS D q ad im w u fi pc rh vv (nI s) (fun (k : Nat) => ([c_sv2, c_cr2, c_cf2, c_pr2, c_jd2, c_kp2, c_ks2, c_kl2, c_ctA2, c_ctB2] : List Int32).getD k 0) (fun (k : Nat) => ([c_cA2, c_lA2, c_mA2, c_cB2, c_lB2, c_mB2, c_ta2] : List (Nat → Int32)).getD k (fun _ => 0)) sz t nx cl fn fa v ev wr bo bt bs ir iv iss ik c_Wl w pc kp (nI s) iss t sz fa bo bt bs wr qn cn pa fl lo ln mwl).flatten (ce + 0) (sl + 0) 485 [some (.ref b), some (.ref (q 0)), some (.ref (q 40)), some (.int (nI i))] [.int (wordV w (xs (i + 1)) (xs (i + 2)) (xs (i + 3)) (xs (i + 4)) (xs (i + 5)) (xs (i + 6)))]
  refine g_aload_n hX dL_law_485 rfl ?_
  refine g_aload_n hX dL_law_486 rfl ?_
  refine g_iload_n hX dL_law_487 rfl ?_
  refine g_iconst hX dL_law_488 kn_i_1 ?_
  refine g_iaddN hX dL_law_489 ?_
  refine g_sld hX hs dL_law_490 hN (by omega) ?_
  refine g_aload_n hX dL_law_491 rfl ?_
  refine g_iload_n hX dL_law_492 rfl ?_
  refine g_iconst hX dL_law_493 kn_i_2 ?_
  refine g_iaddN hX dL_law_494 ?_
  refine g_sld hX hs dL_law_495 hN (by omega) ?_
  refine g_aload_n hX dL_law_496 rfl ?_
  refine g_iload_n hX dL_law_497 rfl ?_
  refine g_iconst hX dL_law_498 kn_i_3 ?_
  refine g_iaddN hX dL_law_499 ?_
  refine g_sld hX hs dL_law_500 hN (by omega) ?_
  refine g_aload_n hX dL_law_501 rfl ?_
  refine g_iload_n hX dL_law_502 rfl ?_
  refine g_iconst hX dL_law_503 kn_i_4 ?_
  refine g_iaddN hX dL_law_504 ?_
  refine g_sld hX hs dL_law_505 hN (by omega) ?_
  refine g_aload_n hX dL_law_506 rfl ?_
  refine g_iload_n hX dL_law_507 rfl ?_
  refine g_iconst hX dL_law_508 kn_i_5 ?_
  refine g_iaddN hX dL_law_509 ?_
  refine g_sld hX hs dL_law_510 hN (by omega) ?_
  refine g_aload_n hX dL_law_511 rfl ?_
  refine g_iload_n hX dL_law_512 rfl ?_
  refine g_bipush hX dL_law_513 kn_b_6 ?_
  refine g_iaddN hX dL_law_515 ?_
  refine g_sld hX hs dL_law_516 hN (by omega) ?_
  refine g_callQ (segs := lawS D q ad im w u fi pc rh vv (nI s) (fun (k : Nat) => ([c_sv2, c_cr2, c_cf2, c_pr2, c_jd2, c_kp2, c_ks2, c_kl2, c_ctA2, c_ctB2] : List Int32).getD k 0) (fun (k : Nat) => ([c_cA2, c_lA2, c_mA2, c_cB2, c_lB2, c_mB2, c_ta2] : List (Nat → Int32)).getD k (fun _ => 0)) sz t nx cl fn fa v ev wr bo bt bs ir iv iss ik c_Wl w pc kp (nI s) iss t sz fa bo bt bs wr qn cn pa fl lo ln mwl) (fun ugh => match ugh with | (m_V, m_Qn, m_Cn, m_Wl) => [gsM0 D q pc kp (nI s) sz fa wr pa fl ln, gsMw D q w, gsMq D q m_Qn, gsMc D q m_Cn, gsMv D q m_Wl]) [16, 17, 21, 22, 24] [0, 1, 2, 3, 4, 5, 6, 7, 8, 9, 10, 11, 12, 13, 14, 15, 18, 19, 20, 23] hX dL_law_517 cw_L_61 (ct_X7_word (l := l) (D := D) (a0 := (q 40)) (a1 := (q 41)) (a2 := (q 42)) (a3 := (q 43)) (a4 := (q 44)) (a5 := (q 45)) (a6 := (q 46)) (a7 := (q 47)) (a8 := (q 48)) (a9 := (q 49)) (a10 := (q 50)) (uk := pc) (sz := sz) (wr := wr) (pa := pa) (fl := fl) (ln := ln) (kp := kp) (sd := (nI s)) (fa := fa) (w := w) (q := qn) (cl := cn) (wl := mwl) (n := (xs (i + 1))) (a := (xs (i + 2))) (b := (xs (i + 3))) (c := (xs (i + 4))) (d := (xs (i + 5))) (e := (xs (i + 6))) ) 0 8 rfl (show ([16, 17, 21, 22, 24] ++ [0, 1, 2, 3, 4, 5, 6, 7, 8, 9, 10, 11, 12, 13, 14, 15, 18, 19, 20, 23] : List Nat).Perm (List.range 25) by decide) rfl rfl rfl rfl (fun ⟨_, _, _, _⟩ => rfl) (fun ⟨_, _, _, _⟩ => rfl) (fun ⟨_, _, _, _⟩ => rfl) ⟨by omega, by omega⟩ (Nat.le_of_ble_eq_true rfl) ⟨by omega, by omega⟩ (fun vgh ugh hp => ?_)
  obtain ⟨m_V, m_Qn, m_Cn, m_Wl⟩ := ugh
  obtain ⟨rfl, m_hv⟩ := hp
  show G X Q (lawS D q ad im w u fi pc rh vv (nI s) (fun (k : Nat) => ([c_sv2, c_cr2, c_cf2, c_pr2, c_jd2, c_kp2, c_ks2, c_kl2, c_ctA2, c_ctB2] : List Int32).getD k 0) (fun (k : Nat) => ([c_cA2, c_lA2, c_mA2, c_cB2, c_lB2, c_mB2, c_ta2] : List (Nat → Int32)).getD k (fun _ => 0)) sz t nx cl fn fa v ev wr bo bt bs ir iv iss ik c_Wl w pc kp (nI s) iss t sz fa bo bt bs wr m_Qn m_Cn pa fl lo ln m_Wl).flatten (ce + 0 + 0) (sl + 0 + 0) 520 [some (.ref b), some (.ref (q 0)), some (.ref (q 40)), some (.int (nI i))] [.int m_V, .int (wordV w (xs (i + 1)) (xs (i + 2)) (xs (i + 3)) (xs (i + 4)) (xs (i + 5)) (xs (i + 6)))]
  refine g_icmp_eq (tgt := 881) hX dL_law_520 (by decide) (fun _ => ?_) (fun h => absurd m_hv.symm h)
  exact kk w u fi pc rh vv s (fun (k : Nat) => ([c_sv2, c_cr2, c_cf2, c_pr2, c_jd2, c_kp2, c_ks2, c_kl2, c_ctA2, c_ctB2] : List Int32).getD k 0) (fun (k : Nat) => ([c_cA2, c_lA2, c_mA2, c_cB2, c_lB2, c_mB2, c_ta2] : List (Nat → Int32)).getD k (fun _ => 0)) sz t nx cl fn fa v ev wr bo bt bs ir iv iss ik c_Wl kp m_Qn m_Cn pa fl lo ln m_Wl _ _ (by omega) (by omega) (by omega) ⟨hc, him, c_hsg2, hsz, ht, hwr, hss⟩
