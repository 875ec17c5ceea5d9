def toldX (w bo bt bs : Nat → Int32) (uk sz wr : Nat) (sd what : Int32) : Int32 := if what.toInt < 7 then (-1000000002) else toldN w bo bt bs uk sz wr sd what.toInt.toNat
theorem toldX_n {w bo bt bs : Nat → Int32} {uk sz wr : Nat} {sd : Int32} {k : Nat} (h : k < 2147483648) (h7 : 7 ≤ k) : toldX w bo bt bs uk sz wr sd (nI k) = toldN w bo bt bs uk sz wr sd k := by
  unfold toldX
  rw [nI_toInt h, if_neg (by omega)]
  rfl
theorem toldX_o {w bo bt bs : Nat → Int32} {uk sz wr : Nat} {sd what : Int32} (h : what.toInt < 7 ∨ 16 < what.toInt) : toldX w bo bt bs uk sz wr sd what = (-1000000002) := by
  unfold toldX
  split
  · rfl
  · exact toldN_o (by omega)
theorem toldX_V {w bo bt bs : Nat → Int32} {uk sz wr : Nat} {sd what : Int32} (h : what.toInt < 0 ∨ 6 < what.toInt) : toldX w bo bt bs uk sz wr sd what = toldV w bo bt bs uk sz wr sd what := by
  unfold toldX toldV
  by_cases h0 : what.toInt < 0
  · rw [if_pos (by omega), if_pos h0]
  · rw [if_neg (by omega), if_neg h0]
def wlU (f : Nat → Int32) (a b c d e : Int32) : Nat → Int32 := upd (upd (upd (upd (upd f 0 a) 1 b) 2 c) 3 d) 4 e
theorem wlU_X {f : Nat → Int32} {a b c d e : Int32} : ∀ k, k < 5 → wlU f a b c d e k = wlX a b c d e k := wl_upd
theorem wordTo_z {w x : Nat → Int32} {n a : Nat} (hn : n = 0) (ha : a < 8) (ea : x n = nI a) : wordTo w x n + (w (86 + a) + nI 0) = wordTo w x (n + 1) := by
  subst hn
  exact (wordTo_s0 (q := w) ha ea).symm
theorem wordTo_t {w x q : Nat → Int32} (hq : ∀ k, k < 16 → q k = cq w k) {n a b : Nat} (hn : ¬ n = 0) (ha : a < 8) (hb : b < 8) (ea : x n = nI a) (eb : x (n - 1) = nI b) : wordTo w x n + (w (86 + a) + (gapOf w q b a - nI 100)) = wordTo w x (n + 1) := (wordTo_s hq (by omega) ha hb ea eb).symm
