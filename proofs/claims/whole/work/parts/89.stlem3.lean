theorem dgt_lt (v i : Nat) : dgt v i < 10 := Nat.mod_lt _ (by decide)
theorem sum_dgt {v : Nat} (h : v ≤ 99999) : 10000 * dgt v 0 + 1000 * dgt v 1 + 100 * dgt v 2 + 10 * dgt v 3 + dgt v 4 = v := by
  show 10000 * (v / 10 / 10 / 10 / 10 % 10) + 1000 * (v / 10 / 10 / 10 % 10) + 100 * (v / 10 / 10 % 10) + 10 * (v / 10 % 10) + v % 10 = v
  omega
theorem rEdge_in {w : Nat → Int32} {c s i v : Nat} (hi : i < 5) : dN (rEdge w c s (dgt v)) (6 + 40 * s + 5 * c + i) = dgt v i := by
  unfold dN rEdge
  rw [if_pos (by omega), show 6 + 40 * s + 5 * c + i - (6 + 40 * s + 5 * c) = i by omega]
  exact nI_cl (by have := dgt_lt v i; omega)
theorem rEdge_out {w : Nat → Int32} {c s v k : Nat} (h : k < 6 + 40 * s + 5 * c ∨ 6 + 40 * s + 5 * c + 5 ≤ k) : rEdge w c s (dgt v) k = w k := by
  unfold rEdge
  rw [if_neg (by omega)]
theorem sE_u {r : Nat → Int32} {c s v k : Nat} (hc : c < 8) (hs : s < 2) (hv : v ≤ 99999) (hk : k = 8 * s + c) : upd (sE r) k (nI v) = sE (rEdge r c s (dgt v)) := by
  subst hk
  funext j
  rw [upd_at]
  unfold sE
  by_cases h : j = 8 * s + c
  · rw [if_pos h, if_pos (by omega), h]
    unfold eN
    have e0 := rEdge_in (w := r) (c := c) (s := s) (v := v) (i := 0) (by decide)
    rw [Nat.add_zero] at e0
    rw [show (8 * s + c) / 8 = s by omega, show (8 * s + c) % 8 = c by omega, e0, rEdge_in (i := 1) (by decide), rEdge_in (i := 2) (by decide), rEdge_in (i := 3) (by decide), rEdge_in (i := 4) (by decide), sum_dgt hv]
  · rw [if_neg h]
    by_cases hj : j < 16
    · rw [if_pos hj, if_pos hj]
      unfold eN dN
      rw [rEdge_out (by omega), rEdge_out (by omega), rEdge_out (by omega), rEdge_out (by omega), rEdge_out (by omega)]
    · rw [if_neg hj, if_neg hj]
theorem rKnow_E {r : Nat → Int32} {c x y wd : Nat} (hc : c < 8) (hx : x ≤ 99999) (hy : y ≤ 99999) : upd (upd (sE r) (0 + c) (nI x)) (8 + c) (nI y) = sE (rKnow r c (dgt x) (dgt y) wd) := by
  rw [sE_u hc (s := 0) (by decide) hx (by omega), sE_u hc (s := 1) (by decide) hy (by omega)]
  refine sE_c (fun k h1 h2 => ?_)
  unfold rKnow
  rw [pk_un (by omega), pk_un (by omega)]
theorem rKnow_hi {r : Nat → Int32} {c x y wd k : Nat} (hc : c < 8) (h1 : ¬ k = 0) (h2 : ¬ k = 86 + c) (h3 : k < 6 ∨ 86 ≤ k) : rKnow r c (dgt x) (dgt y) wd k = r k := by
  unfold rKnow
  rw [pk_un h1, pk_un h2, rEdge_out (by omega), rEdge_out (by omega)]
theorem rKnow_B {r : Nat → Int32} {c x y wd : Nat} (hc : c < 8) : upd (sB r) c (nI wd) = sB (rKnow r c (dgt x) (dgt y) wd) := by
  rw [sB_u hc]
  refine sB_c (fun k h1 h2 => ?_)
  by_cases h : k = 86 + c
  · subst h
    unfold rKnow
    rw [pk_us, pk_un (by omega), pk_us]
  · rw [pk_un h, rKnow_hi hc (by omega) h (by omega)]
theorem rKnow_T {r : Nat → Int32} {c x y wd : Nat} (hc : c < 8) : sT r = sT (rKnow r c (dgt x) (dgt y) wd) := sT_c (fun k h1 h2 => (rKnow_hi hc (by omega) (by omega) (by omega)).symm)
theorem rKnow_G {r : Nat → Int32} {c x y wd : Nat} (hc : c < 8) : sG r = sG (rKnow r c (dgt x) (dgt y) wd) := sG_c (fun k h1 h2 => (rKnow_hi hc (by omega) (by omega) (by omega)).symm)
theorem rKnow_0 {r : Nat → Int32} {c x y wd : Nat} : rKnow r c (dgt x) (dgt y) wd 0 = r 0 ||| (nI 1 <<< (nI c &&& 31)) := by unfold rKnow; exact pk_us
/-! a letter is dropped -/
theorem drop_s {r : Nat → Int32} {c n : Nat} (hc : c < 8) (hn : n < 8) : upd (upd (sG (forgTo r c n)) (c * 8 + n) (nI 1000)) (n * 8 + c) (nI 1000) = sG (forgTo r c (n + 1)) := by
  rw [sG_u hc hn (x := nI 0) (by decide), sG_u hn hc (x := nI 0) (by decide), forgTo_s r hc hn]
theorem forgTo_lo {r : Nat → Int32} {c n k : Nat} (h : k < 94) : forgTo r c n k = r k := by unfold forgTo; rw [if_neg (by omega)]
def dropR (r : Nat → Int32) (c : Nat) : Nat → Int32 := forgTo (upd r 0 (r 0 &&& ((nI 1 <<< (nI c &&& 31)) ^^^ (-1)))) c 8
theorem dropR_0 {r : Nat → Int32} {c : Nat} : dropR r c 0 = r 0 &&& ((nI 1 <<< (nI c &&& 31)) ^^^ (-1)) := by unfold dropR; rw [forgTo_lo (by omega)]; exact pk_us
theorem dropR_E {r : Nat → Int32} {c : Nat} : sE r = sE (dropR r c) := sE_c (fun k h1 h2 => by unfold dropR; rw [forgTo_lo (by omega), pk_un (by omega)])
theorem dropR_B {r : Nat → Int32} {c : Nat} : sB r = sB (dropR r c) := sB_c (fun k h1 h2 => by unfold dropR; rw [forgTo_lo (by omega), pk_un (by omega)])
theorem dropR_T {r : Nat → Int32} {c : Nat} : sT r = sT (dropR r c) := sT_c (fun k h1 h2 => by unfold dropR; rw [forgTo_lo (by omega), pk_un (by omega)])
theorem dropR_G {r : Nat → Int32} {c : Nat} : sG (forgTo r c 8) = sG (dropR r c) := sG_c (fun k h1 h2 => by unfold dropR forgTo; rw [pk_un (by omega)])
