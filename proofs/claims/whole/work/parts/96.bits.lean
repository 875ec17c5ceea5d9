/-! sets of letters as bits -/
def bt (n : Nat) : Int32 := nI 1 <<< (nI n &&& 31)
def bset (f : Nat → Bool) : Nat → Int32
  | 0 => nI 0
  | n + 1 => if f n then bset f n ||| bt n else bset f n
def gb (x : Int32) (i : Nat) : Bool := x.toBitVec.getLsbD i
theorem gb_ext {x y : Int32} (h : ∀ i, i < 32 → gb x i = gb y i) : x = y := by
  apply Int32.toBitVec_inj.mp
  apply BitVec.eq_of_getLsbD_eq
  intro i hi
  exact h i hi
theorem bt_two : ∀ n, n < 8 → (bt n).toBitVec = BitVec.twoPow 32 n := by decide
theorem gb_bt {n i : Nat} (hn : n < 8) : gb (bt n) i = decide (i = n) := by
  unfold gb
  rw [bt_two n hn, BitVec.getLsbD_twoPow]
  by_cases h : i = n
  · subst h; simp; omega
  · simp [h]; omega
theorem gb_or (x y : Int32) (i : Nat) : gb (x ||| y) i = (gb x i || gb y i) := by unfold gb; rw [Int32.toBitVec_or, BitVec.getLsbD_or]
theorem gb_and (x y : Int32) (i : Nat) : gb (x &&& y) i = (gb x i && gb y i) := by unfold gb; rw [Int32.toBitVec_and, BitVec.getLsbD_and]
theorem gb_not (x : Int32) {i : Nat} (hi : i < 32) : gb (x ^^^ (-1)) i = !gb x i := by
  unfold gb
  rw [Int32.toBitVec_xor, BitVec.getLsbD_xor, show (-1 : Int32).toBitVec = BitVec.allOnes 32 by decide, BitVec.getLsbD_allOnes, decide_eq_true hi, Bool.xor_true]
theorem gb_0 (i : Nat) : gb 0 i = false := by unfold gb; rw [show (0 : Int32).toBitVec = 0#32 by decide]; simp
theorem gb_set {f : Nat → Bool} : ∀ {n : Nat}, n ≤ 8 → ∀ i, gb (bset f n) i = (decide (i < n) && f i)
  | 0, _, i => by
    show gb 0 i = _
    rw [gb_0, decide_eq_false (by omega)]
    rfl
  | n + 1, hn, i => by
    unfold bset
    have ih := gb_set (f := f) (n := n) (by omega) i
    by_cases hf : f n = true
    · rw [if_pos hf, gb_or, ih, gb_bt (by omega)]
      by_cases h : i = n
      · subst h; rw [decide_eq_true (rfl : i = i), hf, decide_eq_true (show i < i + 1 by omega)]; simp
      · rw [decide_eq_false h, Bool.or_false]
        by_cases h2 : i < n
        · rw [decide_eq_true h2, decide_eq_true (by omega)]
        · rw [decide_eq_false h2, decide_eq_false (by omega)]
    · rw [if_neg hf, ih]
      by_cases h : i = n
      · subst h; rw [decide_eq_false (by omega)]; simp at hf; rw [hf]; simp
      · by_cases h2 : i < n
        · rw [decide_eq_true h2, decide_eq_true (by omega)]
        · rw [decide_eq_false h2, decide_eq_false (by omega)]
theorem bset_sub {f g : Nat → Bool} : (bset f 8 &&& (bset g 8 ^^^ (-1)) = 0) ↔ ∀ i, i < 8 → f i = true → g i = true := by
  constructor
  · intro h i hi hf
    have := congrArg (fun x => gb x i) h
    simp only [gb_and, gb_0, gb_not _ (show i < 32 by omega), gb_set (Nat.le_refl 8), decide_eq_true hi, hf, Bool.true_and] at this
    simpa using this
  · intro h
    apply gb_ext
    intro i hi
    rw [gb_and, gb_not _ hi, gb_set (Nat.le_refl 8), gb_set (Nat.le_refl 8), gb_0]
    by_cases h8 : i < 8
    · rw [decide_eq_true h8]
      by_cases hf : f i = true
      · rw [hf, h i h8 hf]; rfl
      · simp at hf; rw [hf]; rfl
    · rw [decide_eq_false h8]; rfl
theorem bset_c {f g : Nat → Bool} (h : ∀ i, i < 8 → f i = g i) : bset f 8 = bset g 8 := by
  apply gb_ext
  intro i _
  rw [gb_set (Nat.le_refl 8), gb_set (Nat.le_refl 8)]
  by_cases h8 : i < 8
  · rw [h i h8]
  · rw [decide_eq_false h8]; rfl
theorem bset_add {f : Nat → Bool} {c : Nat} (hc : c < 8) : bset f 8 ||| bt c = bset (fun i => f i || decide (i = c)) 8 := by
  apply gb_ext
  intro i _
  rw [gb_or, gb_bt hc, gb_set (Nat.le_refl 8), gb_set (Nat.le_refl 8)]
  by_cases h8 : i < 8
  · rw [decide_eq_true h8]; simp
  · rw [decide_eq_false h8, decide_eq_false (show ¬ i = c by omega)]; rfl
theorem bset_del {f : Nat → Bool} {c : Nat} (hc : c < 8) : bset f 8 &&& (bt c ^^^ (-1)) = bset (fun i => f i && !decide (i = c)) 8 := by
  apply gb_ext
  intro i hi
  rw [gb_and, gb_not _ hi, gb_bt hc, gb_set (Nat.le_refl 8), gb_set (Nat.le_refl 8)]
  by_cases h8 : i < 8
  · rw [decide_eq_true h8]; simp
  · rw [decide_eq_false h8]; rfl
theorem bset_one {c : Nat} (hc : c < 8) : bt c = bset (fun i => decide (i = c)) 8 := by
  apply gb_ext
  intro i _
  rw [gb_bt hc, gb_set (Nat.le_refl 8)]
  by_cases h8 : i < 8
  · rw [decide_eq_true h8]; simp
  · rw [decide_eq_false h8, decide_eq_false (show ¬ i = c by omega)]; rfl
theorem bset_z {f : Nat → Bool} : bset f 8 = 0 ↔ ∀ i, i < 8 → f i = false := by
  constructor
  · intro h i hi
    have := congrArg (fun x => gb x i) h
    simp only [gb_0, gb_set (Nat.le_refl 8), decide_eq_true hi, Bool.true_and] at this
    exact this
  · intro h
    apply gb_ext
    intro i _
    rw [gb_set (Nat.le_refl 8), gb_0]
    by_cases h8 : i < 8
    · rw [h i h8, Bool.and_false]
    · rw [decide_eq_false h8]; rfl
