/-! THE REFERENCE, by its own numbers: what its reading methods answer -/
def inB (v lo hi : Int64) : Bool := decide (lo ≤ v) && decide (v ≤ hi)
def hasB (k c : Int32) : Bool := decide ((k >>> (c &&& 31)) &&& nI 1 = nI 1)
/-- LETTER j is among the known ones -/
def kn (k : Int32) (j : Nat) : Bool := hasB k (nI j)
def isKn (k c : Int32) : Bool := inB c.toInt64 0 7 && hasB k c
theorem l64 (a b : Int64) : a ≤ b ↔ a.toInt ≤ b.toInt := Int64.le_iff_toInt_le
theorem isKn_in {k c : Int32} (h : isKn k c = true) : ∃ j : Nat, j < 8 ∧ c = nI j ∧ kn k j = true := by
  unfold isKn inB at h
  simp only [Bool.and_eq_true, decide_eq_true_eq, l64] at h
  obtain ⟨⟨h1, h2⟩, h3⟩ := h
  have e : c.toInt64.toInt = c.toInt := Int32.toInt_toInt64 c
  rw [e] at h1 h2
  have z0 : (0 : Int64).toInt = 0 := by decide
  have z7 : (7 : Int64).toInt = 7 := by decide
  rw [z0] at h1
  rw [z7] at h2
  refine ⟨c.toInt.toNat, by omega, ?_, ?_⟩
  · apply Int32.toInt_inj.mp
    rw [nI_toInt (by omega)]
    omega
  · have e2 : c = nI c.toInt.toNat := by
      apply Int32.toInt_inj.mp
      rw [nI_toInt (by omega)]
      omega
    show hasB k (nI c.toInt.toNat) = true
    rw [← e2]
    exact h3
theorem inB_n {a lo hi : Nat} (ha : a < 2147483648) (hl : lo < 2147483648) (hh : hi < 2147483648) : inB (nI a).toInt64 (lN lo) (lN hi) = (decide (lo ≤ a) && decide (a ≤ hi)) := by
  unfold inB
  rw [nI_l ha]
  simp only [lN_le hl ha, lN_le ha hh]
theorem isKn_n {k : Int32} {j : Nat} (hj : j < 8) : isKn k (nI j) = kn k j := by
  unfold isKn kn
  have := inB_n (a := j) (lo := 0) (hi := 7) (by omega) (by omega) (by omega)
  have e0 : (0 : Int64) = lN 0 := rfl
  have e7 : (7 : Int64) = lN 7 := rfl
  rw [e0, e7, this]
  simp
  intro h
  omega
/-- FAR: the edges' numbers by how much they are apart, at a height -/
def fOff (w : Nat → Int32) (c d side h : Nat) : Int32 := if 0 ≤ w (6 + 40 * side + 5 * c + h) - w (6 + 40 * side + 5 * d + h) then w (6 + 40 * side + 5 * c + h) - w (6 + 40 * side + 5 * d + h) else -(w (6 + 40 * side + 5 * c + h) - w (6 + 40 * side + 5 * d + h))
def fSum (w : Nat → Int32) (c d side : Nat) : Nat → Int32
  | 0 => nI 0
  | h + 1 => fSum w c d side h + fOff w c d side h
def fMost (w : Nat → Int32) (c d side : Nat) : Nat → Int32
  | 0 => nI 0
  | h + 1 => if fOff w c d side h ≤ fMost w c d side h then fMost w c d side h else fOff w c d side h
def fSq (w : Nat → Int32) (c d side : Nat) : Nat → Int32
  | 0 => nI 0
  | h + 1 => fSq w c d side h + fOff w c d side h * fOff w c d side h
def farOf (w : Nat → Int32) (c d side : Nat) : Int32 := if w 5 = 0 then fSum w c d side 5 else if w 5 = nI 1 then fMost w c d side 5 else fSq w c d side 5
/-- WHITE -/
def whAt (w : Nat → Int32) (c d : Nat) (g : Int32) (h : Nat) : Int32 := if 0 ≤ w (6 + 40 * 1 + 5 * c + h) + w (6 + 40 * 0 + 5 * d + h) + g then (if w (6 + 40 * 1 + 5 * c + h) + w (6 + 40 * 0 + 5 * d + h) + g ≤ w 3 then w (6 + 40 * 1 + 5 * c + h) + w (6 + 40 * 0 + 5 * d + h) + g else w 3) else nI 0
def whTo (w : Nat → Int32) (c d : Nat) (g : Int32) : Nat → Int32
  | 0 => nI 0
  | h + 1 => whTo w c d g h + whAt w c d g h
def white (w : Nat → Int32) (c d : Nat) (g : Int32) : Int32 := whTo w c d g 5
