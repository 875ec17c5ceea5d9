/-! THE REFERENCE, by its own numbers: what its reading methods answer -/
def inB (v lo hi : Int64) : Bool := decide (lo ≤ v) && decide (v ≤ hi)
def hasB (k c : Int32) : Bool := decide ((k >>> (c &&& 31)) &&& nI 1 = nI 1)
/-- LETTER j is among the known ones -/
def kn (k : Int32) (j : Nat) : Bool := hasB k (nI j)
def isKn (k c : Int32) : Bool := inB c.toInt64 0 7 && hasB k c
theorem l64 (a b : Int64) : a ≤ b ↔ a.toInt ≤ b.toInt := Int64.le_iff_toInt_le
theorem isKn_in {k c : Int32} (h : isKn k c = true) : ∃ j : Nat, j < 8 ∧ c = nI j ∧ kn k j = true := by
  unfold isKn inB at h
  simp only [Bool.and_eq_true, decide_eq_true_eq, l64] at h
  obtain ⟨⟨h1, h2⟩, h3⟩ := h
  have e : c.toInt64.toInt = c.toInt := Int32.toInt_toInt64 c
  rw [e] at h1 h2
  have z0 : (0 : Int64).toInt = 0 := by decide
  have z7 : (7 : Int64).toInt = 7 := by decide
  rw [z0] at h1
  rw [z7] at h2
  refine ⟨c.toInt.toNat, by omega, ?_, ?_⟩
  · apply Int32.toInt_inj.mp
    rw [nI_toInt (by omega)]
    omega
  · have e2 : c = nI c.toInt.toNat := by
      apply Int32.toInt_inj.mp
      rw [nI_toInt (by omega)]
      omega
    show hasB k (nI c.toInt.toNat) = true
    rw [← e2]
    exact h3
theorem inB_n {a lo hi : Nat} (ha : a < 2147483648) (hl : lo < 2147483648) (hh : hi < 2147483648) : inB (nI a).toInt64 (lN lo) (lN hi) = (decide (lo ≤ a) && decide (a ≤ hi)) := by
  unfold inB
  rw [nI_l ha]
  simp only [lN_le hl ha, lN_le ha hh]
theorem isKn_n {k : Int32} {j : Nat} (hj : j < 8) : isKn k (nI j) = kn k j := by
  unfold isKn kn
  have := inB_n (a := j) (lo := 0) (hi := 7) (by omega) (by omega) (by omega)
  have e0 : (0 : Int64) = lN 0 := rfl
  have e7 : (7 : Int64) = lN 7 := rfl
  rw [e0, e7, this]
  simp
  intro h
  omega
/-- FAR: the edges' numbers by how much they are apart, at a height -/
def fOff (w : Nat → Int32) (c d side h : Nat) : Int32 := if 0 ≤ w (6 + 40 * side + 5 * c + h) - w (6 + 40 * side + 5 * d + h) then w (6 + 40 * side + 5 * c + h) - w (6 + 40 * side + 5 * d + h) else -(w (6 + 40 * side + 5 * c + h) - w (6 + 40 * side + 5 * d + h))
def fSum (w : Nat → Int32) (c d side : Nat) : Nat → Int32
  | 0 => nI 0
  | h + 1 => fSum w c d side h + fOff w c d side h
def fMost (w : Nat → Int32) (c d side : Nat) : Nat → Int32
  | 0 => nI 0
  | h + 1 => if fOff w c d side h ≤ fMost w c d side h then fMost w c d side h else fOff w c d side h
def fSq (w : Nat → Int32) (c d side : Nat) : Nat → Int32
  | 0 => nI 0
  | h + 1 => fSq w c d side h + fOff w c d side h * fOff w c d side h
def farOf (w : Nat → Int32) (c d side : Nat) : Int32 := if w 5 = 0 then fSum w c d side 5 else if w 5 = nI 1 then fMost w c d side 5 else fSq w c d side 5
/-- WHITE -/
def whAt (w : Nat → Int32) (c d : Nat) (g : Int32) (h : Nat) : Int32 := if 0 ≤ w (6 + 40 * 1 + 5 * c + h) + w (6 + 40 * 0 + 5 * d + h) + g then (if w (6 + 40 * 1 + 5 * c + h) + w (6 + 40 * 0 + 5 * d + h) + g ≤ w 3 then w (6 + 40 * 1 + 5 * c + h) + w (6 + 40 * 0 + 5 * d + h) + g else w 3) else nI 0
def whTo (w : Nat → Int32) (c d : Nat) (g : Int32) : Nat → Int32
  | 0 => nI 0
  | h + 1 => whTo w c d g h + whAt w c d g h
def white (w : Nat → Int32) (c d : Nat) (g : Int32) : Int32 := whTo w c d g 5
/-- the gaps that are tried: -20, -19 .. -/
def gv : Nat → Int32
  | 0 => -20
  | t + 1 => gv t + 1
theorem gv_ge : ∀ t, t ≤ 40 → (nI 20 ≤ gv t ↔ 40 ≤ t) := by decide
/-- SIGHT -/
def siAt (w : Nat → Int32) (c d : Nat) : Nat → Nat → Int32
  | 0, t => gv t
  | n + 1, t => if w 4 ≤ white w c d (gv t) then gv t else siAt w c d n (t + 1)
def sight (w : Nat → Int32) (c d : Nat) : Int32 := siAt w c d 40 0
/-- a pair in a cell -/
def isInB (w q : Nat → Int32) (c d : Nat) (i j : Int32) : Bool := kn (w 0) c && (kn (w 0) d && (decide (q (8 + c) = i) && decide (q d = j)))
def inWin (w q : Nat → Int32) (i j lo hi : Int32) (k : Nat) : Bool := isInB w q (k / 8) (k % 8) i j && (!decide (w (94 + k) ≤ 0) && inB (w (94 + k)).toInt64 lo.toInt64 hi.toInt64)
def winC (w q : Nat → Int32) (i j lo hi : Int32) : Nat → Int32
  | 0 => nI 0
  | k + 1 => winC w q i j lo hi k + bI (inWin w q i j lo hi k)
def winS (w q : Nat → Int32) (i j lo hi : Int32) : Nat → Int32
  | 0 => nI 0
  | k + 1 => winS w q i j lo hi k + (if inWin w q i j lo hi k then w (94 + k) else nI 0)
def wN (w q : Nat → Int32) (i j : Int32) (t : Nat) : Int32 := winC w q i j (nI (80 + t)) (nI (80 + t) + nI 2 * w 2) 64
def wBeg (w q : Nat → Int32) (i j : Int32) (t : Nat) : Bool := !decide (winC w q i j (nI (80 + t)) (nI (80 + t)) 64 ≤ 0)
def wMost (w q : Nat → Int32) (i j : Int32) : Nat → Int32
  | 0 => nI 0
  | t + 1 => if wBeg w q i j t then (if wN w q i j t ≤ wMost w q i j t then wMost w q i j t else wN w q i j t) else wMost w q i j t
def wBest (w q : Nat → Int32) (i j : Int32) : Nat → Int32
  | 0 => nI 0
  | t + 1 => if wBeg w q i j t then (if wN w q i j t ≤ wMost w q i j t then wBest w q i j t else nI (80 + t)) else wBest w q i j t
def windowOf (w q : Nat → Int32) (i j : Int32) : Int32 := wBest w q i j 41
def strB (w q : Nat → Int32) (c d : Nat) : Bool := !decide (w (94 + 8 * c + d) ≤ 0) && !inB (w (94 + 8 * c + d)).toInt64 (windowOf w q (q (8 + c)) (q d)).toInt64 (windowOf w q (q (8 + c)) (q d) + nI 2 * w 2).toInt64
def prC (w q : Nat → Int32) (i j : Int32) : Nat → Int32
  | 0 => nI 0
  | k + 1 => prC w q i j k + bI (isInB w q (k / 8) (k % 8) i j)
def keptOf (w q : Nat → Int32) (i j : Int32) : Int32 := winC w q i j (windowOf w q i j) (windowOf w q i j + nI 2 * w 2) 64
def abTo (w q : Nat → Int32) (i j : Int32) : Nat → Int32
  | 0 => nI 0
  | k + 1 => abTo w q i j k + (if isInB w q (k / 8) (k % 8) i j then sight w (k / 8) (k % 8) + nI 100 else nI 0)
def aboveOf (w q : Nat → Int32) (i j : Int32) : Int32 := if windowOf w q i j ≤ 0 then abTo w q i j 64 else winS w q i j (windowOf w q i j) (windowOf w q i j + nI 2 * w 2) 64
def belowOf (w q : Nat → Int32) (i j : Int32) : Int32 := if keptOf w q i j ≤ 0 then prC w q i j 64 else keptOf w q i j
def cellGap (w q : Nat → Int32) (i j : Int32) : Int32 := (nI 2 * aboveOf w q i j + belowOf w q i j) / (nI 2 * belowOf w q i j)
def gapOf (w q : Nat → Int32) (c d : Nat) : Int32 := if strB w q c d then w (94 + 8 * c + d) else cellGap w q (q (8 + c)) (q d)
def jmTo (w : Nat → Int32) : Nat → Int32
  | 0 => nI 0
  | k + 1 => jmTo w k + bI (!decide (w (94 + k) ≤ 0))
def smTo (w q : Nat → Int32) : Nat → Int32
  | 0 => nI 0
  | k + 1 => smTo w q k + bI (!decide (w (94 + k) ≤ 0) && strB w q (k / 8) (k % 8))
def miTo (w q : Nat → Int32) : Nat → Int32
  | 0 => nI 0
  | k + 1 => if w (94 + k) ≤ 0 then miTo w q k else miTo w q k + (if 0 ≤ w (94 + k) - gapOf w q (k / 8) (k % 8) then w (94 + k) - gapOf w q (k / 8) (k % 8) else -(w (94 + k) - gapOf w q (k / 8) (k % 8)))
