/-! the drawing of numbers, and drift -/
def nxN (s : Nat) : Nat := (s * 1103515245 + 12345) % 2147483648
def rnN (s n : Nat) : Nat := s / 65536 % n
theorem nxN_lt (s : Nat) : nxN s < 2147483648 := by unfold nxN; exact Nat.mod_lt _ (by omega)
theorem rnN_lt (s : Nat) {n : Nat} (h : 0 < n) : rnN s n < n := by unfold rnN; exact Nat.mod_lt _ h
theorem rnN_eq (s n : Nat) : nI (s / 65536 % n) = nI (rnN s n) := by unfold rnN; rfl
theorem draw_n {s : Nat} (hs : s < 2147483648) : ((nI s).toInt64 * (1103515245) + (12345) - ((nI s).toInt64 * (1103515245) + (12345)) / (2147483648) * (2147483648)).toInt32 = nI (nxN s) := by
  rw [nI_l hs, show (1103515245 : Int64) = lN 1103515245 from rfl, show (12345 : Int64) = lN 12345 from rfl, show (2147483648 : Int64) = lN 2147483648 from rfl, lN_mul, lN_add, pk_lRem (by omega) (by omega) (by omega), lN_i]
  unfold nxN
  rfl
def nxIt (nx : Nat → Nat) : Nat → Nat → Nat
  | 0, s => s
  | n + 1, s => nx (nxIt nx n s)
theorem nxIt_lt {nx : Nat → Nat} (hnx : ∀ s, nx s < 2147483648) {s : Nat} (h : s < 2147483648) : ∀ n, nxIt nx n s < 2147483648
  | 0 => h
  | n + 1 => hnx _
def chW (nx : Nat → Nat) (rn : Nat → Nat → Nat) (w : Nat → Int32) (c s : Nat) : Nat → Nat → Int32
  | 0 => w
  | n + 1 => upd (chW nx rn w c s n) (6 + 40 * (n / 5) + 5 * c + n % 5) (nI (rn (nxIt nx (n + 1) s) 5))
theorem chW_0 {nx : Nat → Nat} {rn : Nat → Nat → Nat} (w : Nat → Int32) {c : Nat} (s : Nat) : ∀ n, chW nx rn w c s n 0 = w 0
  | 0 => rfl
  | n + 1 => by
    show upd (chW nx rn w c s n) (6 + 40 * (n / 5) + 5 * c + n % 5) (nI (rn (nxIt nx (n + 1) s) 5)) 0 = _
    rw [pk_un (by omega)]
    exact chW_0 w s n
def chY (w : Nat → Int32) (s c d x : Nat) : Nat → Int32 := upd (memTo w 0) (94 + 8 * c + d) (if kn (memTo w 0 0) d = true then nI x - nI 4 + nI 100 else memTo w 0 (94 + 8 * c + d))
def chN (nx : Nat → Nat) (rn : Nat → Nat → Nat) (w : Nat → Int32) (s c : Nat) : Nat → Int32 := upd (upd (chW nx rn (memTo w 0) c s 10) (86 + c) (nI (rn (nx (nxIt nx 10 s)) 9 + 1))) 0 (upd (chW nx rn (memTo w 0) c s 10) (86 + c) (nI (rn (nx (nxIt nx 10 s)) 9 + 1)) 0 ||| nI 1 <<< (nI c &&& 31))
/-- one step of drift: the row, the seed -/
def chanceR (nx : Nat → Nat) (rn : Nat → Nat → Nat) (w : Nat → Int32) (s : Nat) : (Nat → Int32) × Nat :=
  if kn (w 0) (rn (nx s) 8) then (chY w s (rn (nx s) 8) (rn (nx (nx s)) 8) (rn (nx (nx (nx s))) 9), nx (nx (nx s)))
  else (chN nx rn w (nx s) (rn (nx s) 8), nx (nxIt nx 10 (nx s)))
theorem chanceR_y {nx : Nat → Nat} {rn : Nat → Nat → Nat} {w : Nat → Int32} {s : Nat} (h : kn (memTo w 0 0) (rn (nx s) 8) = true) : chanceR nx rn w s = (chY w s (rn (nx s) 8) (rn (nx (nx s)) 8) (rn (nx (nx (nx s))) 9), nx (nx (nx s))) := by
  rw [memTo_lo w (by omega)] at h
  unfold chanceR; rw [if_pos h]
theorem chanceR_n {nx : Nat → Nat} {rn : Nat → Nat → Nat} {w : Nat → Int32} {s : Nat} (h : kn (memTo w 0 0) (rn (nx s) 8) = false) : chanceR nx rn w s = (chN nx rn w (nx s) (rn (nx s) 8), nx (nxIt nx 10 (nx s))) := by
  rw [memTo_lo w (by omega)] at h
  unfold chanceR; rw [if_neg (by rw [h]; decide)]
def drI (nx : Nat → Nat) (rn : Nat → Nat → Nat) (w : Nat → Int32) (s : Nat) : Nat → (Nat → Int32) × Nat
  | 0 => (w, s)
  | n + 1 => chanceR nx rn (drI nx rn w s n).1 (drI nx rn w s n).2
theorem chanceR_lt {nx : Nat → Nat} {rn : Nat → Nat → Nat} (hnx : ∀ s, nx s < 2147483648) (w : Nat → Int32) (s : Nat) : (chanceR nx rn w s).2 < 2147483648 := by
  unfold chanceR; split
  · exact hnx _
  · exact hnx _
theorem drI_lt {nx : Nat → Nat} {rn : Nat → Nat → Nat} (hnx : ∀ s, nx s < 2147483648) {w : Nat → Int32} {s : Nat} (h : s < 2147483648) : ∀ n, (drI nx rn w s n).2 < 2147483648
  | 0 => h
  | n + 1 => chanceR_lt hnx _ _
def memN (uk : Nat) : Nat → Nat
  | 0 => uk
  | n + 1 => memU (memN uk n)
theorem memN_le {uk : Nat} (h : uk ≤ 16) : ∀ n, memN uk n ≤ 16
  | 0 => h
  | n + 1 => by have := memN_le h n; show memU (memN uk n) ≤ 16; unfold memU; split <;> omega
def driftR (nx : Nat → Nat) (rn : Nat → Nat → Nat) (w : Nat → Int32) (uk s : Nat) (n : Int32) : Int32 × (Nat → Int32) × Nat × Nat := if inB n.toInt64 1 12 then ((drI nx rn w s n.toNatClampNeg).1 0, (drI nx rn w s n.toNatClampNeg).1, memN uk n.toNatClampNeg, (drI nx rn w s n.toNatClampNeg).2) else ((-1000000002), w, uk, s)
theorem driftR_no {nx : Nat → Nat} {rn : Nat → Nat → Nat} {w : Nat → Int32} {uk s : Nat} {n : Int32} (h : inB n.toInt64 1 12 = false) : driftR nx rn w uk s n = ((-1000000002), w, uk, s) := by unfold driftR; rw [h]; rfl
theorem driftR_ok {nx : Nat → Nat} {rn : Nat → Nat → Nat} {w : Nat → Int32} {uk s n : Nat} (h : inB (nI n).toInt64 1 12 = true) (hn : n ≤ 12) : driftR nx rn w uk s (nI n) = ((drI nx rn w s n).1 0, (drI nx rn w s n).1, memN uk n, (drI nx rn w s n).2) := by unfold driftR; rw [h, nI_cl (by omega)]; rfl
