/-! THE REFERENCE: rows copied; classes -/
def cpTo (w : Nat → Int32) (f t n : Nat) : Nat → Int32 := fun k => if 158 * t ≤ k ∧ k < 158 * t + n then w (158 * f + (k - 158 * t)) else w k
def cpRow (w : Nat → Int32) (f t : Nat) : Nat → Int32 := cpTo w f t 158
theorem cpTo_0 (w : Nat → Int32) (f t : Nat) : cpTo w f t 0 = w := by
  funext k
  unfold cpTo
  rw [if_neg (by omega)]
theorem cpTo_src (w : Nat → Int32) {f t k : Nat} (h : f ≠ t) (hk : k < 158) : cpTo w f t k (158 * f + k) = w (158 * f + k) := by
  unfold cpTo
  rw [if_neg]
  rcases Nat.lt_or_gt_of_ne h with h | h
  · have : 158 * (f + 1) ≤ 158 * t := Nat.mul_le_mul_left _ h
    omega
  · have : 158 * (t + 1) ≤ 158 * f := Nat.mul_le_mul_left _ h
    omega
theorem cpTo_succ (w : Nat → Int32) {f t k : Nat} (h : f ≠ t) (hk : k < 158) : upd (cpTo w f t k) (158 * t + k) (cpTo w f t k (158 * f + k)) = cpTo w f t (k + 1) := by
  rw [cpTo_src w h hk]
  funext j
  unfold upd cpTo
  by_cases hj : j = 158 * t + k
  · rw [if_pos hj, if_pos (by omega)]
    exact congrArg w (by omega)
  · rw [if_neg hj]
    by_cases h2 : 158 * t ≤ j ∧ j < 158 * t + k
    · rw [if_pos h2, if_pos (by omega)]
    · rw [if_neg h2, if_neg (by omega)]
/-- rows k+1 .. 16 hold what rows k .. 15 held -/
def memTo (w : Nat → Int32) (k : Nat) : Nat → Int32 := fun j => if 158 * (k + 1) ≤ j ∧ j < 2686 then w (j - 158) else w j
theorem memTo_16 (w : Nat → Int32) : memTo w 16 = w := by
  funext j
  unfold memTo
  rw [if_neg (by omega)]
theorem memTo_pred (w : Nat → Int32) {k : Nat} (hk : k < 16) : cpRow (memTo w (k + 1)) k (k + 1) = memTo w k := by
  funext j
  unfold cpRow cpTo memTo
  by_cases h1 : 158 * (k + 1) ≤ j ∧ j < 158 * (k + 1) + 158
  · rw [if_pos h1, if_neg (by omega), if_pos (by omega)]
    exact congrArg w (by omega)
  · rw [if_neg h1]
    by_cases h2 : 158 * (k + 1 + 1) ≤ j ∧ j < 2686
    · rw [if_pos h2, if_pos (by omega)]
    · rw [if_neg h2, if_neg (by omega)]
/-- classes: how many the letters ahead of d use; whether a number fits -/
def usN (kn : Nat → Bool) (p : Nat → Nat) : Nat → Nat
  | 0 => 0
  | d + 1 => if kn d then (if p d < usN kn p d then usN kn p d else p d + 1) else usN kn p d
def fitN (kn : Nat → Bool) (cmp : Nat → Bool) (p : Nat → Nat) (num : Nat) : Nat → Bool
  | 0 => true
  | d + 1 => fitN kn cmp p num d && (!kn d || (!decide (p d = num) || cmp d))
theorem usN_le {kn : Nat → Bool} {p : Nat → Nat} : ∀ {d : Nat}, usN kn p d ≤ d ∨ ∃ j, j < d ∧ usN kn p d = p j + 1
  | 0 => Or.inl (Nat.le_refl _)
  | d + 1 => by
    unfold usN
    by_cases h1 : kn d = true
    · rw [if_pos h1]
      by_cases h2 : p d < usN kn p d
      · rw [if_pos h2]
        rcases usN_le (kn := kn) (p := p) (d := d) with h | ⟨j, h3, h4⟩
        · exact Or.inl (by omega)
        · exact Or.inr ⟨j, by omega, h4⟩
      · rw [if_neg h2]
        exact Or.inr ⟨d, by omega, rfl⟩
    · rw [if_neg h1]
      rcases usN_le (kn := kn) (p := p) (d := d) with h | ⟨j, h3, h4⟩
      · exact Or.inl (by omega)
      · exact Or.inr ⟨j, by omega, h4⟩
theorem usN_b {kn : Nat → Bool} {p : Nat → Nat} {B d : Nat} (hd : d ≤ B) (hp : ∀ j, j < d → p j < B) : usN kn p d ≤ B := by
  rcases usN_le (kn := kn) (p := p) (d := d) with h | ⟨j, h3, h4⟩
  · omega
  · have := hp j h3
    omega
/-- the first that is so, from k on -/
def fnd (ok : Nat → Bool) : Nat → Nat → Option Nat
  | 0, _ => none
  | n + 1, k => if ok k then some k else fnd ok n (k + 1)
theorem fnd_none {ok : Nat → Bool} : ∀ (n k : Nat), (∀ j, k ≤ j → ok j = false) → fnd ok n k = none
  | 0, k, h => rfl
  | n + 1, k, h => by
    unfold fnd
    rw [if_neg (by rw [h k (Nat.le_refl k)]; decide)]
    exact fnd_none n (k + 1) (fun j hj => h j (by omega))
def oI (o : Option Nat) : Int32 := match o with
  | some k => nI k
  | none => -1
/-- a number that a letter may have -/
def okN (kn : Nat → Bool) (cmp : Nat → Bool) (p : Nat → Nat) (c most k : Nat) : Bool := decide (k ≤ usN kn p c) && (decide (k < most) && fitN kn cmp p k c)
def knW (w : Nat → Int32) (d : Nat) : Bool := kn (w 0) d
def cmpW (w : Nat → Int32) (side c d : Nat) : Bool := !decide (w 1 < farOf w c d side)
