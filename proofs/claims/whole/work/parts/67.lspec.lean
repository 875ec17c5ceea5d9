/-! lines, told, cells: their values -/
def putL (f : Nat → Int32) : Nat → List Int32 → Nat → Int32
  | _, [] => f
  | n, x :: xs => putL (upd f n x) (n + 1) xs
theorem putL_app (xs ys : List Int32) : ∀ (f : Nat → Int32) (n : Nat), putL (putL f n xs) (n + xs.length) ys = putL f n (xs ++ ys) := by
  induction xs with
  | nil => intro f n; rfl
  | cons x xs ih =>
    intro f n
    show putL (putL (upd f n x) (n + 1) xs) (n + (xs.length + 1)) ys = putL (upd f n x) (n + 1) (xs ++ ys)
    rw [← ih (upd f n x) (n + 1), show n + 1 + xs.length = n + (xs.length + 1) by omega]
theorem putL_lo (xs : List Int32) : ∀ (f : Nat → Int32) (n k : Nat), k < n → putL f n xs k = f k := by
  induction xs with
  | nil => intro f n k h; rfl
  | cons x xs ih =>
    intro f n k h
    show putL (upd f n x) (n + 1) xs k = f k
    rw [ih _ _ _ (by omega)]
    exact pk_un (by omega)
theorem putL_get (xs : List Int32) : ∀ (f : Nat → Int32) (n k : Nat) (h : k < xs.length), putL f n xs (n + k) = xs[k] := by
  induction xs with
  | nil => intro f n k h; exact absurd h (by simp)
  | cons x xs ih =>
    intro f n k h
    show putL (upd f n x) (n + 1) xs (n + k) = _
    cases k with
    | zero => rw [putL_lo _ _ _ _ (by omega)]; exact pk_us
    | succ k =>
      have := ih (upd f n x) (n + 1) k (by simpa using h)
      rw [show n + (k + 1) = n + 1 + k by omega, this]
      rfl
def numP (g : Int32) : List Int32 := if g ≤ nI 9 then [nI 48 + (g - g / nI 10 * nI 10)] else [nI 48 + g / nI 10, nI 48 + (g - g / nI 10 * nI 10)]
def numS (g : Int32) : List Int32 := if 0 ≤ g then numP g else nI 45 :: numP (-g)
def numL (v : Int32) : List Int32 := numS (v - nI 100)
theorem numP_len (g : Int32) : 1 ≤ (numP g).length ∧ (numP g).length ≤ 2 := by unfold numP; split <;> simp
theorem numL_len (v : Int32) : 1 ≤ (numL v).length ∧ (numL v).length ≤ 3 := by
  unfold numL numS
  split
  · have := numP_len (v - nI 100); omega
  · have := numP_len (-(v - nI 100))
    simp only [List.length_cons]; omega
def cellL (w q : Nat → Int32) (i j : Nat) : List Int32 := [nI (48 + i), nI 47, nI (48 + j), nI 32] ++ numL (cellGap w q (nI i) (nI j))
def pairL (w : Nat → Int32) (c d : Nat) : List Int32 := [nI (97 + c), nI (97 + d), nI 32] ++ numL (w (94 + 8 * c + d))
def strP (w q : Nat → Int32) (p : Nat) : Bool := !decide (w (94 + p) ≤ 0) && strB w q (p / 8) (p % 8)
def nthS (f : Nat → Bool) : Nat → Nat → Nat → Option Nat
  | _, 0, _ => none
  | n, m + 1, p => if f p then (if n = 0 then some p else nthS f (n - 1) m (p + 1)) else nthS f n m (p + 1)
theorem nthS_lt {f : Nat → Bool} : ∀ {m n p r : Nat}, nthS f n m p = some r → p ≤ r ∧ r < p + m ∧ f r = true
  | 0, n, p, r, h => by cases h
  | m + 1, n, p, r, h => by
    unfold nthS at h
    split at h
    · rename_i hf
      split at h
      · cases h; exact ⟨Nat.le_refl _, by omega, hf⟩
      · have := nthS_lt h; exact ⟨by omega, by omega, this.2.2⟩
    · have := nthS_lt h; exact ⟨by omega, by omega, this.2.2⟩
/-- the line k, if there is one -/
def lineL (w : Nat → Int32) (k : Int32) : Option (List Int32) :=
  if k.toInt < 0 then none
  else if k.toInt.toNat < clM w 0 * clM w 1 then some (cellL w (cq w) (k.toInt.toNat / clM w 0) (k.toInt.toNat % clM w 0))
  else match nthS (strP w (cq w)) (k.toInt.toNat - clM w 0 * clM w 1) 64 0 with
    | none => none
    | some p => some (pairL w (p / 8) (p % 8))
def lineV (w : Nat → Int32) (k a : Int32) : Int32 := match lineL w k with
  | none => (-1000000001)
  | some l => if 0 ≤ a then (if a.toInt.toNat < l.length then l.getD a.toInt.toNat 0 else (-1)) else (-1000000002)
def wrB (w : Nat → Int32) (a b g : Int32) : Bool := !(isKn (w 0) a && (isKn (w 0) b && decide (gapOf w (cq w) a.toNatClampNeg b.toNatClampNeg - nI 100 = g)))
def wrongO (w bo bt bs : Nat → Int32) (wr : Nat) : Option Nat := fnd (fun k => wrB w (bo k) (bt k) (bs k)) wr 0
def toldN (w bo bt bs : Nat → Int32) (uk sz wr : Nat) (sd : Int32) (k : Nat) : Int32 := match k with
  | 0 => w 0
  | 1 => nI (clM w 0)
  | 2 => nI (clM w 1)
  | 3 => jmTo w 64
  | 4 => smTo w (cq w) 64
  | 5 => nI (clM w 0) * nI (clM w 1) + smTo w (cq w) 64
  | 6 => miTo w (cq w) 64
  | 7 => w 1
  | 8 => w 2
  | 9 => w 3
  | 10 => w 4
  | 11 => w 5
  | 12 => nI sz
  | 13 => nI wr
  | 14 => oI (wrongO w bo bt bs wr)
  | 15 => nI uk
  | 16 => sd
  | _ => (-1000000002)
def toldV (w bo bt bs : Nat → Int32) (uk sz wr : Nat) (sd what : Int32) : Int32 := if what.toInt < 0 then (-1000000002) else toldN w bo bt bs uk sz wr sd what.toInt.toNat
theorem toldV_n {w bo bt bs : Nat → Int32} {uk sz wr : Nat} {sd : Int32} {k : Nat} (h : k < 2147483648) : toldV w bo bt bs uk sz wr sd (nI k) = toldN w bo bt bs uk sz wr sd k := by
  unfold toldV
  rw [nI_toInt h, if_neg (by omega)]
  rfl
theorem toldN_o {w bo bt bs : Nat → Int32} {uk sz wr : Nat} {sd : Int32} : ∀ {k : Nat}, 16 < k → toldN w bo bt bs uk sz wr sd k = (-1000000002)
  | 0, h | 1, h | 2, h | 3, h | 4, h | 5, h | 6, h | 7, h | 8, h | 9, h | 10, h | 11, h | 12, h | 13, h | 14, h | 15, h | 16, h => absurd h (by omega)
  | n + 17, _ => rfl
theorem toldV_o {w bo bt bs : Nat → Int32} {uk sz wr : Nat} {sd what : Int32} (h : what.toInt < 0 ∨ 16 < what.toInt) : toldV w bo bt bs uk sz wr sd what = (-1000000002) := by
  unfold toldV
  split
  · rfl
  · exact toldN_o (by omega)
/-! what a row keeps -/
def okW (w : Nat → Int32) : Prop := (∃ m : Nat, m < 256 ∧ w 0 = nI m) ∧ (∀ k, k < 64 → ∃ g : Nat, g ≤ 120 ∧ w (94 + k) = nI g) ∧ (∀ k, k < 64 → ¬ w (94 + k) ≤ 0 → kn (w 0) (k / 8) = true ∧ kn (w 0) (k % 8) = true)
theorem okW.gap {w : Nat → Int32} (h : okW w) : ∀ k, k < 64 → ∃ g : Nat, g ≤ 120 ∧ w (94 + k) = nI g := h.2.1
theorem okW.both {w : Nat → Int32} (h : okW w) : ∀ k, k < 64 → ¬ w (94 + k) ≤ 0 → kn (w 0) (k / 8) = true ∧ kn (w 0) (k % 8) = true := h.2.2
theorem okW.miss {w q : Nat → Int32} (h : okW w) : ∀ k, k < 64 → ¬ w (94 + k) ≤ 0 → ¬ nI 2 * belowOf w q (q (8 + k / 8)) (q (k % 8)) = 0 := fun k hk hp => below_ne_self (by omega) (by omega) (h.both k hk hp).1 (h.both k hk hp).2
/-! sums that stay natural -/
theorem gv_n : ∀ t, t ≤ 40 → ∃ g, g ≤ 120 ∧ gv t + nI 100 = nI g := by
  intro t ht
  refine ⟨80 + t, by omega, ?_⟩
  revert t
  decide
theorem siAt_n {w : Nat → Int32} {c d : Nat} : ∀ n t, n + t ≤ 40 → ∃ g, g ≤ 120 ∧ siAt w c d n t + nI 100 = nI g
  | 0, t, h => gv_n t (by omega)
  | n + 1, t, h => by
    unfold siAt
    split
    · exact gv_n t (by omega)
    · exact siAt_n n (t + 1) (by omega)
theorem abTo_n (w q : Nat → Int32) (i j : Int32) : ∀ k, ∃ s, s ≤ 120 * k ∧ abTo w q i j k = nI s
  | 0 => ⟨0, by omega, rfl⟩
  | k + 1 => by
    obtain ⟨s, h1, h2⟩ := abTo_n w q i j k
    obtain ⟨g, g1, g2⟩ := siAt_n (w := w) (c := k / 8) (d := k % 8) 40 0 (by omega)
    unfold abTo
    rw [h2]
    split
    · exact ⟨s + g, by omega, by rw [← nI_add, ← g2]; rfl⟩
    · exact ⟨s + 0, by omega, by rw [← nI_add]⟩
theorem winS_n {w : Nat → Int32} (hw : okW w) (q : Nat → Int32) (i j lo hi : Int32) : ∀ k, k ≤ 64 → ∃ s, s ≤ 120 * k ∧ winS w q i j lo hi k = nI s
  | 0, _ => ⟨0, by omega, rfl⟩
  | k + 1, hk => by
    obtain ⟨s, h1, h2⟩ := winS_n hw q i j lo hi k (by omega)
    obtain ⟨g, g1, g2⟩ := hw.gap k (by omega)
    unfold winS
    rw [h2]
    split
    · exact ⟨s + g, by omega, by rw [← nI_add, ← g2]⟩
    · exact ⟨s + 0, by omega, by rw [← nI_add]⟩
theorem aboveOf_n {w : Nat → Int32} (hw : okW w) (q : Nat → Int32) (i j : Int32) : ∃ s, s ≤ 7680 ∧ aboveOf w q i j = nI s := by
  unfold aboveOf
  split
  · obtain ⟨s, h1, h2⟩ := abTo_n w q i j 64
    exact ⟨s, by omega, h2⟩
  · obtain ⟨s, h1, h2⟩ := winS_n hw q i j (windowOf w q i j) (windowOf w q i j + nI 2 * w 2) 64 (Nat.le_refl _)
    exact ⟨s, by omega, h2⟩
/-- what stands above the line -/
def abo (w q : Nat → Int32) (i j : Int32) : Nat := (aboveOf w q i j).toNatClampNeg
theorem abo_n {w : Nat → Int32} (hw : okW w) (q : Nat → Int32) (i j : Int32) : aboveOf w q i j = nI (abo w q i j) ∧ abo w q i j ≤ 7680 := by
  obtain ⟨s, h1, h2⟩ := aboveOf_n hw q i j
  unfold abo
  rw [h2, nI_cl (by omega)]
  exact ⟨rfl, h1⟩
def cellN (w q : Nat → Int32) (i j : Int32) (k : Nat) : Int32 := match k with
  | 0 => prC w q i j 64
  | 1 => winC w q i j (nI 1) (nI 200) 64
  | 2 => keptOf w q i j
  | 3 => cellGap w q i j
  | 4 => nI (abo w q i j / Nat.gcd (abo w q i j) (bel w q i j))
  | 5 => nI (bel w q i j / Nat.gcd (abo w q i j) (bel w q i j))
  | _ => (-1000000002)
theorem cellN_o {w q : Nat → Int32} {i j : Int32} : ∀ {k : Nat}, 5 < k → cellN w q i j k = (-1000000002)
  | 0, h | 1, h | 2, h | 3, h | 4, h | 5, h => absurd h (by omega)
  | n + 6, _ => rfl
def cellV (w : Nat → Int32) (i j what : Int32) : Int32 :=
  if (0 ≤ i.toInt ∧ i.toInt < (clM w 1 : Int)) ∧ (0 ≤ j.toInt ∧ j.toInt < (clM w 0 : Int)) then (if what.toInt < 0 then (-1000000002) else cellN w (cq w) i j what.toInt.toNat) else (-1000000001)
theorem inM {x : Int32} {m : Nat} (hm : m < 2147483648) : inB x.toInt64 0 (nI m - nI 1).toInt64 = true ↔ (0 ≤ x.toInt ∧ x.toInt < (m : Int)) := by
  unfold inB
  simp only [Bool.and_eq_true, decide_eq_true_eq, l64, Int32.toInt_toInt64]
  rw [show (0 : Int64).toInt = 0 from rfl]
  rcases Nat.eq_zero_or_pos m with h | h
  · subst h
    rw [show (nI 0 - nI 1).toInt = -1 from by decide]
    omega
  · rw [show nI m - nI 1 = nI (m - 1) from pk_sub (by omega), nI_toInt (by omega)]
    omega
theorem inM_n {x : Int32} {m : Nat} (h : 0 ≤ x.toInt ∧ x.toInt < (m : Int)) (hm : m < 2147483648) : ∃ j, j < m ∧ x = nI j := by
  refine ⟨x.toInt.toNat, by omega, ?_⟩
  apply Int32.toInt_inj.mp
  rw [nI_toInt (by omega)]
  omega
