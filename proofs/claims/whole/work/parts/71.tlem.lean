theorem fnd_n {ok : Nat → Bool} {wr k : Nat} (hk : k < wr) (h : ok k = false) : fnd ok (wr - k) k = fnd ok (wr - (k + 1)) (k + 1) := by
  rw [show wr - k = (wr - (k + 1)) + 1 by omega]
  exact if_neg (by rw [h]; decide)
theorem fnd_y {ok : Nat → Bool} {wr k : Nat} (hk : k < wr) (h : ok k = true) : fnd ok (wr - k) k = some k := by
  rw [show wr - k = (wr - (k + 1)) + 1 by omega]
  exact if_pos h
theorem fnd_e {ok : Nat → Bool} {wr k : Nat} (hk : wr ≤ k) : fnd ok (wr - k) k = none := by
  rw [show wr - k = 0 by omega]
  rfl
theorem wrB_1 {w : Nat → Int32} {a b g : Int32} (h : isKn (w 0) a = false) : wrB w a b g = true := by unfold wrB; rw [h]; rfl
theorem wrB_2 {w : Nat → Int32} {a b g : Int32} (h : isKn (w 0) b = false) : wrB w a b g = true := by unfold wrB; rw [h]; simp
theorem wrB_e {w q : Nat → Int32} {a b g : Int32} {c d : Nat} (hq : ∀ k, k < 16 → q k = cq w k) (hc : c < 8) (hd : d < 8) (kc : kn (w 0) c = true) (kd : kn (w 0) d = true) (ea : a = nI c) (eb : b = nI d) : wrB w a b g = !decide (gapOf w q c d - nI 100 = g) := by
  unfold wrB
  rw [ea, eb, isKn_n hc, isKn_n hd, kc, kd, nI_cl (by omega), nI_cl (by omega), gapOf_q hq hc hd]
  simp
theorem cellV_no {w : Nat → Int32} {i j what : Int32} (h : ¬ ((0 ≤ i.toInt ∧ i.toInt < (clM w 1 : Int)) ∧ (0 ≤ j.toInt ∧ j.toInt < (clM w 0 : Int)))) : cellV w i j what = (-1000000001) := if_neg h
theorem cellV_n {w : Nat → Int32} {i j : Nat} {k : Nat} (hi : i < clM w 1) (hj : j < clM w 0) (hk : k < 2147483648) : cellV w (nI i) (nI j) (nI k) = cellN w (cq w) (nI i) (nI j) k := by
  have h0 := clM_le w 0
  have h1 := clM_le w 1
  unfold cellV
  rw [nI_toInt (by omega), nI_toInt (by omega), nI_toInt hk, if_pos (by omega), if_neg (by omega)]
  rfl
theorem cellV_o {w : Nat → Int32} {i j : Nat} {what : Int32} (hi : i < clM w 1) (hj : j < clM w 0) (h : what.toInt < 0 ∨ 5 < what.toInt) : cellV w (nI i) (nI j) what = (-1000000002) := by
  have h0 := clM_le w 0
  have h1 := clM_le w 1
  unfold cellV
  rw [nI_toInt (by omega), nI_toInt (by omega), if_pos (by omega)]
  split
  · rfl
  · exact cellN_o (by omega)
theorem abo_q {w q q2 : Nat → Int32} (h : ∀ k, k < 16 → q k = q2 k) (i j : Int32) : abo w q i j = abo w q2 i j := by unfold abo; rw [aboveOf_q h]
theorem bel_q {w q q2 : Nat → Int32} (h : ∀ k, k < 16 → q k = q2 k) (i j : Int32) : bel w q i j = bel w q2 i j := by
  have h1 := belowOf_n w q i j
  have h2 := belowOf_n w q2 i j
  have e : nI (bel w q i j) = nI (bel w q2 i j) := by rw [← h1.1, ← h2.1, belowOf_q h]
  exact (nI_eq (by omega) (by omega)).mp e
theorem bel_cell {w : Nat → Int32} {i j : Nat} (hi : i < clM w 1) (hj : j < clM w 0) : 0 < bel w (cq w) (nI i) (nI j) := by
  obtain ⟨c, d, c1, d1, -, -, h⟩ := cell_in hi hj
  exact bel_pos c1 d1 h
/-! words -/
def wlX (a b c d e : Int32) : Nat → Int32 := fun k => if k = 0 then a else if k = 1 then b else if k = 2 then c else if k = 3 then d else e
def allKn (w : Nat → Int32) (x : Nat → Int32) : Nat → Bool
  | 0 => true
  | n + 1 => allKn w x n && isKn (w 0) (x n)
def wordTo (w : Nat → Int32) (x : Nat → Int32) : Nat → Int32
  | 0 => nI 1000
  | n + 1 => wordTo w x n + (w (86 + (x n).toNatClampNeg) + (if n = 0 then nI 0 else gapOf w (cq w) (x (n - 1)).toNatClampNeg (x n).toNatClampNeg - nI 100))
def wordV (w : Nat → Int32) (n a b c d e : Int32) : Int32 := if inB n.toInt64 1 5 then (if allKn w (wlX a b c d e) n.toNatClampNeg then wordTo w (wlX a b c d e) n.toNatClampNeg else (-1000000001)) else (-1000000002)
theorem allKn_get {w x : Nat → Int32} : ∀ {n : Nat}, allKn w x n = true → ∀ k, k < n → isKn (w 0) (x k) = true
  | 0, _, k, hk => absurd hk (by omega)
  | n + 1, h, k, hk => by
    unfold allKn at h
    rw [Bool.and_eq_true] at h
    by_cases e : k = n
    · rw [e]; exact h.2
    · exact allKn_get h.1 k (by omega)
theorem allKn_no {w x : Nat → Int32} {k : Nat} (h : isKn (w 0) (x k) = false) : ∀ {n : Nat}, k < n → allKn w x n = false
  | 0, hk => absurd hk (by omega)
  | n + 1, hk => by
    unfold allKn
    by_cases e : k = n
    · rw [← e, h, Bool.and_false]
    · rw [allKn_no h (n := n) (by omega)]; rfl
theorem wordV_bad {w : Nat → Int32} {n a b c d e : Int32} (h : inB n.toInt64 1 5 = false) : wordV w n a b c d e = (-1000000002) := by unfold wordV; rw [h]; rfl
theorem inB15 {n : Nat} (h1 : 1 ≤ n) (h5 : n ≤ 5) : inB (nI n).toInt64 1 5 = true := by
  rw [show (1 : Int64) = lN 1 from rfl, show (5 : Int64) = lN 5 from rfl, inB_n (by omega) (by omega) (by omega), decide_eq_true h1, decide_eq_true h5]; rfl
theorem wordV_no {w : Nat → Int32} {n : Nat} {a b c d e : Int32} (h1 : 1 ≤ n) (h5 : n ≤ 5) (h : allKn w (wlX a b c d e) n = false) : wordV w (nI n) a b c d e = (-1000000001) := by
  unfold wordV; rw [inB15 h1 h5, nI_cl (by omega), h]; rfl
theorem wordV_ok {w : Nat → Int32} {n : Nat} {a b c d e : Int32} (h1 : 1 ≤ n) (h5 : n ≤ 5) (h : allKn w (wlX a b c d e) n = true) : wordV w (nI n) a b c d e = wordTo w (wlX a b c d e) n := by
  unfold wordV; rw [inB15 h1 h5, nI_cl (by omega), h]; rfl
theorem wl_upd {f : Nat → Int32} {a b c d e : Int32} : ∀ k, k < 5 → upd (upd (upd (upd (upd f 0 a) 1 b) 2 c) 3 d) 4 e k = wlX a b c d e k
  | 0, _ | 1, _ | 2, _ | 3, _ | 4, _ => rfl
  | n + 5, h => absurd h (by omega)
theorem wordTo_s0 {w x q : Nat → Int32} {a : Nat} (ha : a < 8) (ea : x 0 = nI a) : wordTo w x 1 = nI 1000 + (w (86 + a) + nI 0) := by
  show nI 1000 + (w (86 + (x 0).toNatClampNeg) + nI 0) = _
  rw [ea, nI_cl (by omega)]
theorem wordTo_s {w x q : Nat → Int32} (hq : ∀ k, k < 16 → q k = cq w k) {n a b : Nat} (hn : 0 < n) (ha : a < 8) (hb : b < 8) (ea : x n = nI a) (eb : x (n - 1) = nI b) : wordTo w x (n + 1) = wordTo w x n + (w (86 + a) + (gapOf w q b a - nI 100)) := by
  show wordTo w x n + (w (86 + (x n).toNatClampNeg) + (if n = 0 then nI 0 else gapOf w (cq w) (x (n - 1)).toNatClampNeg (x n).toNatClampNeg - nI 100)) = _
  rw [ea, eb, nI_cl (by omega), nI_cl (by omega), if_neg (by omega), gapOf_q hq hb ha]
