theorem lt2 {n : Nat} (h : n < 2) : n = 0 ∨ n = 1 := by omega
theorem least_n : ∀ k, k < 5 → leastT.getD k 0 = nI (if k = 2 then 1 else 0) := by decide
theorem most_n : ∀ k, k < 5 → mostT.getD k 0 = nI (mostN k) := by decide
theorem tm_low : ∀ k, k < 5 → (if k = 2 then (1 : Int64) else 0).toInt = ((if k = 2 then 1 else 0 : Nat) : Int) := by decide
theorem most_b (k : Nat) : mostN k ≤ 99 := by unfold mostN; split <;> (try split) <;> omega
theorem tm_lo {k : Nat} {v : Int32} (hk : k < 5) (h : v < leastT.getD k 0) : termB (nI k) v = false := by
  rw [termB_n (by omega)]
  rw [least_n k hk] at h
  exact in_lo (tm_low k hk) (by split <;> omega) h
theorem tm_hi {k : Nat} {v : Int32} (hk : k < 5) (h : ¬ v ≤ mostT.getD k 0) : termB (nI k) v = false := by
  have hm := most_b k
  rw [termB_n (by omega)]
  rw [most_n k hk] at h
  refine in_hi (n := mostN k) ?_ (by omega) h
  rw [Int32.toInt_toInt64, nI_toInt (by omega)]
theorem tm_in {k : Nat} {v : Int32} (hk : k < 5) (h1 : ¬ v < leastT.getD k 0) (h2 : v ≤ mostT.getD k 0) : termB (nI k) v = true := by
  have hm := most_b k
  rw [termB_n (by omega), inB_z, tm_low k hk, Int32.toInt_toInt64, nI_toInt (show mostN k < 2147483648 by omega)]
  rw [least_n k hk, Int32.lt_iff_toInt_lt, nI_toInt (by split <;> omega)] at h1
  rw [most_n k hk, Int32.le_iff_toInt_le, nI_toInt (by omega)] at h2
  rw [decide_eq_true (by omega), decide_eq_true h2]
  rfl
theorem n0m {x : Int32} {m : Nat} (hm : m < 2147483648) (h1 : ¬ x < 0) (h2 : x ≤ nI m) : ∃ j, j ≤ m ∧ x = nI j := by
  obtain ⟨j, hj, rfl⟩ := nI_of h1
  exact ⟨j, (nI_leI hj hm).mp h2, rfl⟩
theorem in255 {c : Nat} (h : c ≤ 255) : inB (nI c).toInt64 0 255 = true := by
  have := inB_n (a := c) (lo := 0) (hi := 255) (by omega) (by omega) (by omega)
  rw [show (0 : Int64) = lN 0 from rfl, show (255 : Int64) = lN 255 from rfl, this, decide_eq_true (by omega), decide_eq_true h]; rfl
theorem tk_no {t T : Nat → Nat} {sz x Z : Nat} {b : Bool} (h : (b, T, Z) = (if sz = 150 then (false, t, sz) else (true, updN t sz x, sz + 1))) (hb : b = false) : sz = 150 ∧ T = t ∧ Z = sz := by
  by_cases q : sz = 150
  · rw [if_pos q] at h; cases h; exact ⟨q, rfl, rfl⟩
  · rw [if_neg q] at h; cases h; cases hb
theorem tk_ok {t T : Nat → Nat} {sz x Z : Nat} {b : Bool} (h : (b, T, Z) = (if sz = 150 then (false, t, sz) else (true, updN t sz x, sz + 1))) (hb : b = true) : ¬ sz = 150 ∧ T = updN t sz x ∧ Z = sz + 1 := by
  by_cases q : sz = 150
  · rw [if_pos q] at h; cases h; cases hb
  · rw [if_neg q] at h; cases h; exact ⟨q, rfl, rfl⟩
theorem en_no {bo bt bs Bo Bt Bs : Nat → Int32} {wr Wr : Nat} {c d g : Int32} {b : Bool} (hw : wr ≤ 20) (h : (b, Bo, Bt, Bs, Wr) = enterR bo bt bs wr c d g) (hb : b = false) : wr = 20 ∧ Bo = bo ∧ Bt = bt ∧ Bs = bs ∧ Wr = wr := by
  unfold enterR at h
  by_cases q : wr < 20
  · rw [if_pos q] at h; cases h; cases hb
  · rw [if_neg q] at h; cases h; exact ⟨by omega, rfl, rfl, rfl, rfl⟩
theorem en_ok {bo bt bs Bo Bt Bs : Nat → Int32} {wr Wr : Nat} {c d g : Int32} {b : Bool} (hw : wr ≤ 20) (h : (b, Bo, Bt, Bs, Wr) = enterR bo bt bs wr c d g) (hb : b = true) : ¬ wr = 20 ∧ Bo = upd bo wr c ∧ Bt = upd bt wr d ∧ Bs = upd bs wr g ∧ Wr = wr + 1 := by
  unfold enterR at h
  by_cases q : wr < 20
  · rw [if_pos q] at h; cases h; exact ⟨by omega, rfl, rfl, rfl, rfl⟩
  · rw [if_neg q] at h; cases h; cases hb
def undoC (r : Nat → Int32) (u fi pc : Nat) (rh : Nat → Nat → Int32) (n : Int32) : Int32 × (Nat → Int32) × Nat × Nat := if inB n.toInt64 1 16 then (if n.toNatClampNeg ≤ pc then (rh ((fi + (pc - n.toNatClampNeg)) % 16) 0, rh ((fi + (pc - n.toNatClampNeg)) % 16), u + 1, pc - n.toNatClampNeg) else ((-1000000003), r, u, pc)) else ((-1000000002), r, u, pc)
def keepC (r : Nat → Int32) (ir : Nat → Nat → Int32) (iss ik : Nat → Int32) (sd : Int32) (pc : Nat) (k : Int32) : Int32 × (Nat → Nat → Int32) × (Nat → Int32) × (Nat → Int32) × Nat := if inB k.toInt64 0 1 then (nI 1, rgU ir k.toNatClampNeg r, upd iss k.toNatClampNeg sd, upd ik k.toNatClampNeg (nI 1), 0) else ((-1000000001), ir, iss, ik, pc)
def goBackC (r : Nat → Int32) (u : Nat) (ir : Nat → Nat → Int32) (iss ik : Nat → Int32) (sd : Int32) (pc : Nat) (k : Int32) : Int32 × (Nat → Int32) × Nat × Int32 × Nat := if inB k.toInt64 0 1 then (if ik k.toNatClampNeg = 0 then ((-1000000003), r, u, sd, pc) else (nI 1, ir k.toNatClampNeg, u + 1, iss k.toNatClampNeg, 0)) else ((-1000000001), r, u, sd, pc)
