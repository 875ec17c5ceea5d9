/-! WHAT EACH CALL ANSWERS, by the reference's numbers; the same for both -/
theorem inB_z (x : Int32) (lo hi : Int64) : inB x.toInt64 lo hi = (decide (lo.toInt ≤ x.toInt) && decide (x.toInt ≤ hi.toInt)) := by
  unfold inB
  simp only [Int64.le_iff_toInt_le, Int32.toInt_toInt64]
theorem inT {x : Int32} {n : Nat} (hn : n < 2147483648) (h : inB x.toInt64 0 (lN n) = true) : ∃ j, j ≤ n ∧ x = nI j := by
  rw [inB_z] at h
  simp only [Bool.and_eq_true, decide_eq_true_eq] at h
  rw [lN_toInt (by omega), show (0 : Int64).toInt = 0 from rfl] at h
  refine ⟨x.toInt.toNat, by omega, ?_⟩
  apply Int32.toInt_inj.mp
  rw [nI_toInt (by omega)]
  omega
theorem inT1 {x : Int32} {n : Nat} (hn : n < 2147483648) (h : inB x.toInt64 1 (lN n) = true) : ∃ j, 1 ≤ j ∧ j ≤ n ∧ x = nI j := by
  rw [inB_z] at h
  simp only [Bool.and_eq_true, decide_eq_true_eq] at h
  rw [lN_toInt (by omega), show (1 : Int64).toInt = 1 from rfl] at h
  refine ⟨x.toInt.toNat, by omega, by omega, ?_⟩
  apply Int32.toInt_inj.mp
  rw [nI_toInt (by omega)]
  omega
def edgeV (w : Nat → Int32) (c side h : Int32) : Int32 := if isKn (w 0) c then (if inB side.toInt64 0 1 && inB h.toInt64 0 4 then w (6 + 40 * side.toNatClampNeg + 5 * c.toNatClampNeg + h.toNatClampNeg) else (-1000000002)) else (-1000000001)
def atV (w : Nat → Int32) (c what : Int32) : Int32 := if isKn (w 0) c then (if what = 0 then w (86 + c.toNatClampNeg) else if what = nI 1 then nI (pat (clR w 0) c.toNatClampNeg) else if what = nI 2 then nI (pat (clR w 1) c.toNatClampNeg) else (-1000000002)) else (-1000000001)
def farV (w : Nat → Int32) (c d side : Int32) : Int32 := if isKn (w 0) c && isKn (w 0) d then (if inB side.toInt64 0 1 then farOf w c.toNatClampNeg d.toNatClampNeg side.toNatClampNeg else (-1000000002)) else (-1000000001)
/-- the classes' numbers as one row: LEFT, then RIGHT -/
def cq (w : Nat → Int32) : Nat → Int32 := layQ w (fun _ => 0)
theorem layQ_lt {w q : Nat → Int32} {k : Nat} (h : k < 16) : layQ w q k = cq w k := by
  unfold cq layQ
  by_cases h1 : k < 8
  · rw [if_pos h1, if_pos h1]
  · rw [if_neg h1, if_neg h1, if_pos h, if_pos h]
def pairV (w : Nat → Int32) (c d what : Int32) : Int32 := if isKn (w 0) c && isKn (w 0) d then
    (if what = nI 0 then gapOf w (cq w) c.toNatClampNeg d.toNatClampNeg
    else if what = nI 1 then (if w (94 + 8 * c.toNatClampNeg + d.toNatClampNeg) ≤ 0 then (-1) else w (94 + 8 * c.toNatClampNeg + d.toNatClampNeg))
    else if what = nI 2 then bI (strB w (cq w) c.toNatClampNeg d.toNatClampNeg)
    else if what = nI 3 then sight w c.toNatClampNeg d.toNatClampNeg + nI 100
    else if what = nI 4 then white w c.toNatClampNeg d.toNatClampNeg (gapOf w (cq w) c.toNatClampNeg d.toNatClampNeg - nI 100)
    else (-1000000002)) else (-1000000001)
/-! what reads the classes' row reads its sixteen places alone -/
theorem isInB_q {w q q2 : Nat → Int32} (h : ∀ k, k < 16 → q k = q2 k) {c d : Nat} (hc : c < 8) (hd : d < 8) (i j : Int32) : isInB w q c d i j = isInB w q2 c d i j := by
  unfold isInB
  rw [h (8 + c) (by omega), h d (by omega)]
theorem winC_q {w q q2 : Nat → Int32} (h : ∀ k, k < 16 → q k = q2 k) (i j lo hi : Int32) : ∀ k, k ≤ 64 → winC w q i j lo hi k = winC w q2 i j lo hi k
  | 0, _ => rfl
  | k + 1, hk => by
    show winC w q i j lo hi k + bI (inWin w q i j lo hi k) = _
    rw [winC_q h i j lo hi k (by omega)]
    unfold inWin
    rw [isInB_q h (by omega) (by omega)]
    rfl
theorem winS_q {w q q2 : Nat → Int32} (h : ∀ k, k < 16 → q k = q2 k) (i j lo hi : Int32) : ∀ k, k ≤ 64 → winS w q i j lo hi k = winS w q2 i j lo hi k
  | 0, _ => rfl
  | k + 1, hk => by
    show winS w q i j lo hi k + (if inWin w q i j lo hi k then w (94 + k) else nI 0) = _
    rw [winS_q h i j lo hi k (by omega)]
    unfold inWin
    rw [isInB_q h (by omega) (by omega)]
    rfl
theorem wN_q {w q q2 : Nat → Int32} (h : ∀ k, k < 16 → q k = q2 k) (i j : Int32) (t : Nat) : wN w q i j t = wN w q2 i j t := winC_q h _ _ _ _ 64 (Nat.le_refl _)
theorem wBeg_q {w q q2 : Nat → Int32} (h : ∀ k, k < 16 → q k = q2 k) (i j : Int32) (t : Nat) : wBeg w q i j t = wBeg w q2 i j t := by
  unfold wBeg
  rw [winC_q h _ _ _ _ 64 (Nat.le_refl _)]
theorem wMost_q {w q q2 : Nat → Int32} (h : ∀ k, k < 16 → q k = q2 k) (i j : Int32) : ∀ t, wMost w q i j t = wMost w q2 i j t
  | 0 => rfl
  | t + 1 => by
    unfold wMost
    rw [wMost_q h i j t, wBeg_q h, wN_q h]
theorem wBest_q {w q q2 : Nat → Int32} (h : ∀ k, k < 16 → q k = q2 k) (i j : Int32) : ∀ t, wBest w q i j t = wBest w q2 i j t
  | 0 => rfl
  | t + 1 => by
    unfold wBest
    rw [wBest_q h i j t, wBeg_q h, wN_q h, wMost_q h]
theorem windowOf_q {w q q2 : Nat → Int32} (h : ∀ k, k < 16 → q k = q2 k) (i j : Int32) : windowOf w q i j = windowOf w q2 i j := wBest_q h i j 41
theorem strB_q {w q q2 : Nat → Int32} (h : ∀ k, k < 16 → q k = q2 k) {c d : Nat} (hc : c < 8) (hd : d < 8) : strB w q c d = strB w q2 c d := by
  unfold strB
  rw [windowOf_q h, h (8 + c) (by omega), h d (by omega)]
theorem prC_q {w q q2 : Nat → Int32} (h : ∀ k, k < 16 → q k = q2 k) (i j : Int32) : ∀ k, k ≤ 64 → prC w q i j k = prC w q2 i j k
  | 0, _ => rfl
  | k + 1, hk => by
    show prC w q i j k + bI (isInB w q (k / 8) (k % 8) i j) = _
    rw [prC_q h i j k (by omega), isInB_q h (by omega) (by omega)]
    rfl
theorem keptOf_q {w q q2 : Nat → Int32} (h : ∀ k, k < 16 → q k = q2 k) (i j : Int32) : keptOf w q i j = keptOf w q2 i j := by
  unfold keptOf
  rw [windowOf_q h, winC_q h _ _ _ _ 64 (Nat.le_refl _)]
theorem abTo_q {w q q2 : Nat → Int32} (h : ∀ k, k < 16 → q k = q2 k) (i j : Int32) : ∀ k, k ≤ 64 → abTo w q i j k = abTo w q2 i j k
  | 0, _ => rfl
  | k + 1, hk => by
    show abTo w q i j k + (if isInB w q (k / 8) (k % 8) i j then sight w (k / 8) (k % 8) + nI 100 else nI 0) = _
    rw [abTo_q h i j k (by omega), isInB_q h (by omega) (by omega)]
    rfl
theorem aboveOf_q {w q q2 : Nat → Int32} (h : ∀ k, k < 16 → q k = q2 k) (i j : Int32) : aboveOf w q i j = aboveOf w q2 i j := by
  unfold aboveOf
  rw [windowOf_q h, abTo_q h _ _ 64 (Nat.le_refl _), winS_q h _ _ _ _ 64 (Nat.le_refl _)]
theorem belowOf_q {w q q2 : Nat → Int32} (h : ∀ k, k < 16 → q k = q2 k) (i j : Int32) : belowOf w q i j = belowOf w q2 i j := by
  unfold belowOf
  rw [keptOf_q h, prC_q h _ _ 64 (Nat.le_refl _)]
theorem cellGap_q {w q q2 : Nat → Int32} (h : ∀ k, k < 16 → q k = q2 k) (i j : Int32) : cellGap w q i j = cellGap w q2 i j := by
  unfold cellGap
  rw [aboveOf_q h, belowOf_q h]
theorem gapOf_q {w q q2 : Nat → Int32} (h : ∀ k, k < 16 → q k = q2 k) {c d : Nat} (hc : c < 8) (hd : d < 8) : gapOf w q c d = gapOf w q2 c d := by
  unfold gapOf
  rw [strB_q h hc hd, cellGap_q h, h (8 + c) (by omega), h d (by omega)]
theorem smTo_q {w q q2 : Nat → Int32} (h : ∀ k, k < 16 → q k = q2 k) : ∀ k, k ≤ 64 → smTo w q k = smTo w q2 k
  | 0, _ => rfl
  | k + 1, hk => by
    show smTo w q k + bI (!decide (w (94 + k) ≤ 0) && strB w q (k / 8) (k % 8)) = _
    rw [smTo_q h k (by omega), strB_q h (by omega) (by omega)]
    rfl
theorem miTo_q {w q q2 : Nat → Int32} (h : ∀ k, k < 16 → q k = q2 k) : ∀ k, k ≤ 64 → miTo w q k = miTo w q2 k
  | 0, _ => rfl
  | k + 1, hk => by
    unfold miTo
    rw [miTo_q h k (by omega), gapOf_q h (by omega) (by omega)]
theorem cq_q (w q : Nat → Int32) : ∀ k, k < 16 → layQ w q k = cq w k := fun _ h => layQ_lt h
