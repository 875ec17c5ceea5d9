/-! the State's cells read their part of the row alone -/
theorem sE_c {r q : Nat → Int32} (h : ∀ k, 6 ≤ k → k < 86 → r k = q k) : sE r = sE q := by
  funext k
  unfold sE
  by_cases hk : k < 16
  · rw [if_pos hk, if_pos hk]
    unfold eN dN
    rw [h _ (by omega) (by omega), h _ (by omega) (by omega), h _ (by omega) (by omega), h _ (by omega) (by omega), h _ (by omega) (by omega)]
  · rw [if_neg hk, if_neg hk]
theorem sB_c {r q : Nat → Int32} (h : ∀ k, 86 ≤ k → k < 94 → r k = q k) : sB r = sB q := by
  funext k
  unfold sB
  by_cases hk : k < 8
  · rw [if_pos hk, if_pos hk, h _ (by omega) (by omega)]
  · rw [if_neg hk, if_neg hk]
theorem sT_c {r q : Nat → Int32} (h : ∀ k, 1 ≤ k → k < 6 → r k = q k) : sT r = sT q := by
  funext k
  unfold sT
  by_cases hk : k < 5
  · rw [if_pos hk, if_pos hk, h _ (by omega) (by omega)]
  · rw [if_neg hk, if_neg hk]
theorem sG_c {r q : Nat → Int32} (h : ∀ k, 94 ≤ k → k < 158 → r k = q k) : sG r = sG q := by
  funext k
  unfold sG
  by_cases hk : k < 64
  · rw [if_pos hk, if_pos hk, h _ (by omega) (by omega)]
  · rw [if_neg hk, if_neg hk]
theorem sT_u {r : Nat → Int32} {k : Nat} {v : Int32} (hk : k < 5) : upd (sT r) k v = sT (upd r (1 + k) v) := by
  funext j
  rw [upd_at]
  unfold sT
  by_cases h : j = k
  · rw [if_pos h, if_pos (by omega), h]; exact pk_us.symm
  · rw [if_neg h]
    by_cases hj : j < 5
    · rw [if_pos hj, if_pos hj, pk_un (by omega)]
    · rw [if_neg hj, if_neg hj]
theorem sB_u {r : Nat → Int32} {k : Nat} {v : Int32} (hk : k < 8) : upd (sB r) k v = sB (upd r (86 + k) v) := by
  funext j
  rw [upd_at]
  unfold sB
  by_cases h : j = k
  · rw [if_pos h, if_pos (by omega), h]; exact pk_us.symm
  · rw [if_neg h]
    by_cases hj : j < 8
    · rw [if_pos hj, if_pos hj, pk_un (by omega)]
    · rw [if_neg hj, if_neg hj]
theorem sG_u {r : Nat → Int32} {c d : Nat} {x g : Int32} (hc : c < 8) (hd : d < 8) (hx : gG x = g) : upd (sG r) (c * 8 + d) g = sG (upd r (94 + 8 * c + d) x) := by
  funext j
  rw [upd_at]
  unfold sG
  by_cases h : j = c * 8 + d
  · rw [if_pos h, if_pos (by omega), h, show 94 + (c * 8 + d) = 94 + 8 * c + d by omega, ← hx]; exact congrArg gG pk_us.symm
  · rw [if_neg h]
    by_cases hj : j < 64
    · rw [if_pos hj, if_pos hj, pk_un (by omega)]
    · rw [if_neg hj, if_neg hj]
theorem cpy_all {f g : Nat → Int32} {n : Nat} (h : ∀ k, n ≤ k → f k = g k) : va_cpy f g 0 0 n = f := by
  funext k
  unfold va_cpy
  by_cases hk : k < n
  · rw [if_pos (by omega), show 0 + (k - 0) = k by omega]
  · rw [if_neg (by omega)]; exact (h k (by omega)).symm
theorem sE_o {r q : Nat → Int32} : ∀ k, 16 ≤ k → sE r k = sE q k := fun k h => by unfold sE; rw [if_neg (by omega), if_neg (by omega)]
theorem sB_o {r q : Nat → Int32} : ∀ k, 8 ≤ k → sB r k = sB q k := fun k h => by unfold sB; rw [if_neg (by omega), if_neg (by omega)]
theorem sT_o {r q : Nat → Int32} : ∀ k, 5 ≤ k → sT r k = sT q k := fun k h => by unfold sT; rw [if_neg (by omega), if_neg (by omega)]
theorem sG_o {r q : Nat → Int32} : ∀ k, 64 ≤ k → sG r k = sG q k := fun k h => by unfold sG; rw [if_neg (by omega), if_neg (by omega)]
