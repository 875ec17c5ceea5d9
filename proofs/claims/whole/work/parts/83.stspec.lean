/-! a State by a row -/
def dN (r : Nat → Int32) (i : Nat) : Nat := (r i).toNatClampNeg
def eN (r : Nat → Int32) (k : Nat) : Nat := 10000 * dN r (6 + 40 * (k / 8) + 5 * (k % 8)) + 1000 * dN r (6 + 40 * (k / 8) + 5 * (k % 8) + 1) + 100 * dN r (6 + 40 * (k / 8) + 5 * (k % 8) + 2) + 10 * dN r (6 + 40 * (k / 8) + 5 * (k % 8) + 3) + dN r (6 + 40 * (k / 8) + 5 * (k % 8) + 4)
def sE (r : Nat → Int32) (k : Nat) : Int32 := if k < 16 then nI (eN r k) else 0
def sB (r : Nat → Int32) (k : Nat) : Int32 := if k < 8 then r (86 + k) else 0
def sT (r : Nat → Int32) (k : Nat) : Int32 := if k < 5 then r (1 + k) else 0
def gG (x : Int32) : Int32 := if x = 0 then nI 1000 else x - nI 100
def sG (r : Nat → Int32) (k : Nat) : Int32 := if k < 64 then gG (r (94 + k)) else 0
/-- figures -/
def okD (r : Nat → Int32) : Prop := ∀ k, 6 ≤ k → k < 86 → ∃ d : Nat, d < 10 ∧ r k = nI d
theorem okD.get {r : Nat → Int32} (h : okD r) {k : Nat} (h1 : 6 ≤ k) (h2 : k < 86) : r k = nI (dN r k) ∧ dN r k < 10 := by
  obtain ⟨d, hd, e⟩ := h k h1 h2
  unfold dN
  rw [e, nI_cl (by omega)]
  exact ⟨rfl, hd⟩
def plN (h : Nat) : Nat := if h = 0 then 10000 else if h = 1 then 1000 else if h = 2 then 100 else if h = 3 then 10 else 1
theorem plN_get : ∀ h, h < 5 → placeV.getD h 0 = nI (plN h) := by decide
theorem plN_b (h : Nat) : 0 < plN h ∧ plN h ≤ 10000 := by unfold plN; split <;> (try split) <;> (try split) <;> (try split) <;> omega
theorem eN_le {r : Nat → Int32} (hd : okD r) {k : Nat} (hk : k < 16) : eN r k ≤ 99999 := by
  have a0 := (hd.get (k := 6 + 40 * (k / 8) + 5 * (k % 8)) (by omega) (by omega)).2
  have a1 := (hd.get (k := 6 + 40 * (k / 8) + 5 * (k % 8) + 1) (by omega) (by omega)).2
  have a2 := (hd.get (k := 6 + 40 * (k / 8) + 5 * (k % 8) + 2) (by omega) (by omega)).2
  have a3 := (hd.get (k := 6 + 40 * (k / 8) + 5 * (k % 8) + 3) (by omega) (by omega)).2
  have a4 := (hd.get (k := 6 + 40 * (k / 8) + 5 * (k % 8) + 4) (by omega) (by omega)).2
  unfold eN
  omega
theorem eN_dig {r : Nat → Int32} (hd : okD r) {c side h : Nat} (hc : c < 8) (hs : side < 2) (hh : h < 5) : nI (eN r (side * 8 + c) / plN h % 10) = r (6 + 40 * side + 5 * c + h) := by
  have a0 := hd.get (k := 6 + 40 * side + 5 * c) (by omega) (by omega)
  have a1 := hd.get (k := 6 + 40 * side + 5 * c + 1) (by omega) (by omega)
  have a2 := hd.get (k := 6 + 40 * side + 5 * c + 2) (by omega) (by omega)
  have a3 := hd.get (k := 6 + 40 * side + 5 * c + 3) (by omega) (by omega)
  have a4 := hd.get (k := 6 + 40 * side + 5 * c + 4) (by omega) (by omega)
  unfold eN
  rw [show (side * 8 + c) / 8 = side by omega, show (side * 8 + c) % 8 = c by omega]
  match h, hh with
  | 0, _ => rw [show 6 + 40 * side + 5 * c + 0 = 6 + 40 * side + 5 * c from rfl, a0.1]; exact congrArg nI (by show _ / 10000 % 10 = _; omega)
  | 1, _ => rw [a1.1]; exact congrArg nI (by show _ / 1000 % 10 = _; omega)
  | 2, _ => rw [a2.1]; exact congrArg nI (by show _ / 100 % 10 = _; omega)
  | 3, _ => rw [a3.1]; exact congrArg nI (by show _ / 10 % 10 = _; omega)
  | 4, _ => rw [a4.1]; exact congrArg nI (by show _ / 1 % 10 = _; omega)
theorem isKn_lo {k c : Int32} (h : c < 0) : isKn k c = false := by
  unfold isKn
  rw [inB_z]
  have := Int32.lt_iff_toInt_lt.mp h
  rw [show (0 : Int32).toInt = 0 from rfl] at this
  rw [show (0 : Int64).toInt = 0 from rfl, decide_eq_false (show ¬ 0 ≤ c.toInt by omega)]
  rfl
theorem isKn_hi {k c : Int32} (h : nI 8 ≤ c) : isKn k c = false := by
  unfold isKn
  rw [inB_z]
  have := Int32.le_iff_toInt_le.mp h
  rw [show (nI 8).toInt = 8 from rfl] at this
  rw [show (7 : Int64).toInt = 7 from rfl, decide_eq_false (show ¬ c.toInt ≤ 7 by omega), Bool.and_false]
  rfl
theorem isKn_mid {k c : Int32} (h0 : ¬ c < 0) (h8 : ¬ nI 8 ≤ c) : isKn k c = hasB k c := by
  unfold isKn
  rw [inB_z]
  rw [Int32.lt_iff_toInt_lt, show (0 : Int32).toInt = 0 from rfl] at h0
  rw [Int32.le_iff_toInt_le, show (nI 8).toInt = 8 from rfl] at h8
  rw [show (0 : Int64).toInt = 0 from rfl, show (7 : Int64).toInt = 7 from rfl, decide_eq_true (show 0 ≤ c.toInt by omega), decide_eq_true (show c.toInt ≤ 7 by omega)]
  rfl
theorem sE_at {r : Nat → Int32} {k : Nat} (h : k < 16) : sE r k = nI (eN r k) := if_pos h
theorem sB_at {r : Nat → Int32} {k : Nat} (h : k < 8) : sB r k = r (86 + k) := if_pos h
theorem sT_at {r : Nat → Int32} {k : Nat} (h : k < 5) : sT r k = r (1 + k) := if_pos h
theorem sG_at {r : Nat → Int32} {c d : Nat} (hc : c < 8) (hd : d < 8) : sG r (c * 8 + d) = gG (r (94 + 8 * c + d)) := by
  unfold sG
  rw [if_pos (by omega), show 94 + (c * 8 + d) = 94 + 8 * c + d by omega]
/-- gaps -/
def okG (r : Nat → Int32) : Prop := ∀ k, k < 64 → ∃ g : Nat, (g = 0 ∨ (80 ≤ g ∧ g ≤ 120)) ∧ r (94 + k) = nI g
theorem pk_sub_eq_1000 {g : Nat} (h1 : 80 ≤ g) (h2 : g ≤ 120) : (nI g - nI 100 = nI 1000) = False := by
  apply eq_false
  intro h
  have := congrArg Int32.toInt h
  rw [pk_sub_toInt (by omega) (by omega), nI_toInt (by omega)] at this
  omega
theorem gG_j {g : Nat} (hg : g = 0 ∨ (80 ≤ g ∧ g ≤ 120)) : (gG (nI g) = nI 1000) ↔ (nI g ≤ 0) := by
  rcases hg with h | ⟨h1, h2⟩
  · subst h; decide
  · have e : nI g ≠ 0 := nI_ne0 (by omega) (by omega)
    unfold gG
    rw [if_neg e, pk_sub_eq_1000 (by omega) (by omega)]
    constructor
    · intro h; exact absurd h id
    · intro h
      have := Int32.le_iff_toInt_le.mp h
      rw [nI_toInt (by omega)] at this
      have h0 : (0 : Int32).toInt = 0 := rfl
      omega
