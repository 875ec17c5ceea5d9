/-! THE TEXT, read: one telling for both. A fault is (its number, its place). t k: letter k of the text, sz: how many it has -/
def hereO (t : Nat → Nat) (sz p : Nat) : Option Nat := if sz ≤ p then none else some (t p)
def figO (o : Option Nat) : Bool := match o with
  | some v => decide (48 ≤ v) && decide (v ≤ 57)
  | none => false
def smlO (o : Option Nat) : Bool := match o with
  | some v => decide (97 ≤ v) && decide (v ≤ 122)
  | none => false
def skA (t : Nat → Nat) (sz : Nat) : Nat → Nat → Nat
  | 0, p => p
  | n + 1, p => if hereO t sz p = some 32 then skA t sz n (p + 1) else p
/-- the first place that holds no blank -/
def sk (t : Nat → Nat) (sz p : Nat) : Nat := skA t sz (sz - p) p
def smA (t : Nat → Nat) (sz : Nat) : Nat → Nat → Nat
  | 0, p => p
  | n + 1, p => if smlO (hereO t sz p) then smA t sz n (p + 1) else p
/-- the first place that holds no small letter -/
def sm (t : Nat → Nat) (sz p : Nat) : Nat := smA t sz (sz - p) p
theorem skA_le (t : Nat → Nat) (sz : Nat) : ∀ n p, p ≤ skA t sz n p ∧ skA t sz n p ≤ p + n
  | 0, p => ⟨Nat.le_refl _, Nat.le_refl _⟩
  | n + 1, p => by
    unfold skA
    by_cases h : hereO t sz p = some 32
    · rw [if_pos h]
      have := skA_le t sz n (p + 1)
      omega
    · rw [if_neg h]
      omega
theorem sk_le {t : Nat → Nat} {sz p : Nat} (h : p ≤ sz) : sk t sz p ≤ sz := by
  have := skA_le t sz (sz - p) p
  unfold sk
  omega
theorem sk_ge {t : Nat → Nat} {sz p : Nat} : p ≤ sk t sz p := (skA_le t sz (sz - p) p).1
theorem smA_le (t : Nat → Nat) (sz : Nat) : ∀ n p, p ≤ smA t sz n p ∧ smA t sz n p ≤ p + n
  | 0, p => ⟨Nat.le_refl _, Nat.le_refl _⟩
  | n + 1, p => by
    unfold smA
    by_cases h : smlO (hereO t sz p) = true
    · rw [if_pos h]
      have := smA_le t sz n (p + 1)
      omega
    · rw [if_neg h]
      omega
theorem sm_le {t : Nat → Nat} {sz p : Nat} (h : p ≤ sz) : sm t sz p ≤ sz := by
  have := smA_le t sz (sz - p) p
  unfold sm
  omega
theorem sm_ge {t : Nat → Nat} {sz p : Nat} : p ≤ sm t sz p := (smA_le t sz (sz - p) p).1
theorem smA_in (t : Nat → Nat) (sz : Nat) : ∀ n p k, p ≤ k → k < smA t sz n p → smlO (hereO t sz k) = true
  | 0, p, k, h1, h2 => absurd h2 (by unfold smA; omega)
  | n + 1, p, k, h1, h2 => by
    unfold smA at h2
    by_cases h : smlO (hereO t sz p) = true
    · rw [if_pos h] at h2
      by_cases hk : k = p
      · rw [hk]; exact h
      · exact smA_in t sz n (p + 1) k (by omega) h2
    · rw [if_neg h] at h2
      omega
theorem sm_in {t : Nat → Nat} {sz p k : Nat} (h1 : p ≤ k) (h2 : k < sm t sz p) : smlO (hereO t sz k) = true := smA_in t sz _ p k h1 h2
theorem smlO_in {t : Nat → Nat} {sz p : Nat} (h : smlO (hereO t sz p) = true) : p < sz ∧ 97 ≤ t p ∧ t p ≤ 122 := by
  unfold hereO at h
  by_cases hp : sz ≤ p
  · rw [if_pos hp] at h; cases h
  · rw [if_neg hp] at h
    simp only [smlO, Bool.and_eq_true, decide_eq_true_eq] at h
    omega
theorem figO_in {t : Nat → Nat} {sz p : Nat} (h : figO (hereO t sz p) = true) : p < sz ∧ 48 ≤ t p ∧ t p ≤ 57 := by
  unfold hereO at h
  by_cases hp : sz ≤ p
  · rw [if_pos hp] at h; cases h
  · rw [if_neg hp] at h
    simp only [figO, Bool.and_eq_true, decide_eq_true_eq] at h
    omega
theorem hereO_some {t : Nat → Nat} {sz p v : Nat} (h : hereO t sz p = some v) : p < sz ∧ t p = v := by
  unfold hereO at h
  by_cases hp : sz ≤ p
  · rw [if_pos hp] at h; cases h
  · rw [if_neg hp] at h
    exact ⟨by omega, Option.some.inj h⟩
abbrev PR (α : Type) : Type := (Nat × Nat) ⊕ α
/-- this sign, blanks ahead of it -/
def qWant (t : Nat → Nat) (sz ch p : Nat) : PR Nat := if hereO t sz (sk t sz p) = some ch then .inr (sk t sz p + 1) else .inl (1, sk t sz p)
/-- a figure, least or more: its number, the place behind it -/
def qFig (t : Nat → Nat) (sz least p : Nat) : PR (Nat × Nat) := if figO (hereO t sz p) = true ∧ 48 + least ≤ t p then .inr (t p - 48, p + 1) else .inl (1, p)
/-- a number in its bounds -/
def qNum (t : Nat → Nat) (sz lo hi p : Nat) : PR (Nat × Nat) := match qFig t sz 0 (sk t sz p) with
  | .inl e => .inl e
  | .inr (v1, p1) => if figO (hereO t sz p1) = true then
      (if figO (hereO t sz (p1 + 1)) = true ∨ 10 * v1 + (t p1 - 48) < lo ∨ hi < 10 * v1 + (t p1 - 48) then .inl (2, sk t sz p) else .inr (10 * v1 + (t p1 - 48), p1 + 1))
    else (if v1 < lo ∨ hi < v1 then .inl (2, sk t sz p) else .inr (v1, p1))
/-- figures side by side from p on: how many of n, up to the first other sign -/
def qRun (t : Nat → Nat) (sz p : Nat) : Nat → Nat
  | 0 => 0
  | n + 1 => if figO (hereO t sz p) then qRun t sz (p + 1) n + 1 else 0
/-- the five figures of an edge: the place of the first -/
def qEdge (t : Nat → Nat) (sz p : Nat) : PR Nat := if qRun t sz (sk t sz p) 5 = 5 then .inr (sk t sz p) else .inl (1, sk t sz p + qRun t sz (sk t sz p) 5)
/-- rows: an edge, a width, a letter known -/
def rEdge (w : Nat → Int32) (c side : Nat) (dg : Nat → Nat) : Nat → Int32 := fun k => if 6 + 40 * side + 5 * c ≤ k ∧ k < 6 + 40 * side + 5 * c + 5 then nI (dg (k - (6 + 40 * side + 5 * c))) else w k
def rKnow (w : Nat → Int32) (c : Nat) (l r : Nat → Nat) (wd : Nat) : Nat → Int32 := upd (upd (rEdge (rEdge w c 0 l) c 1 r) (86 + c) (nI wd)) 0 (w 0 ||| (nI 1 <<< (nI c &&& 31)))
/-- a letter's clause, behind its letter, but for the ';' -/
def qLetter (t : Nat → Nat) (sz : Nat) (w : Nat → Int32) (c p : Nat) : PR (Nat × (Nat → Int32)) := match qEdge t sz p with
  | .inl e => .inl e
  | .inr p1 => match qWant t sz 47 (p1 + 5) with
    | .inl e => .inl e
    | .inr p2 => match qEdge t sz p2 with
      | .inl e => .inl e
      | .inr p3 => match qWant t sz 44 (p3 + 5) with
        | .inl e => .inl e
        | .inr p4 => match qFig t sz 1 (sk t sz p4) with
          | .inl e => .inl e
          | .inr (v, p5) => .inr (p5, rKnow w c (fun i => t (p1 + i) - 48) (fun i => t (p3 + i) - 48) v)
/-- a pair's, behind its letters, which stand at from -/
def qPair (t : Nat → Nat) (sz : Nat) (w : Nat → Int32) (c d from_ p : Nat) : PR (Nat × (Nat → Int32)) :=
  if (kn (w 0) c && kn (w 0) d) = true then (match qWant t sz 58 p with
    | .inl e => .inl e
    | .inr p1 => if hereO t sz (sk t sz p1) = some 45 then (match qNum t sz 0 20 (sk t sz p1 + 1) with
        | .inl e => .inl e
        | .inr (v, p2) => .inr (p2, upd w (94 + 8 * c + d) (nI (100 - v))))
      else (match qNum t sz 0 20 (sk t sz p1) with
        | .inl e => .inl e
        | .inr (v, p2) => .inr (p2, upd w (94 + 8 * c + d) (nI (100 + v)))))
  else .inl (3, from_)
def qTermN (t : Nat → Nat) (sz : Nat) (w : Nat → Int32) (k lo hi p : Nat) : PR (Nat × (Nat → Int32)) := match qNum t sz lo hi p with
  | .inl e => .inl e
  | .inr (v, p1) => .inr (p1, upd w (1 + k) (nI v))
/-- a word of the text, as its letters -/
def wordL (t : Nat → Nat) (a b : Nat) : List Nat := (List.range (b - a)).map fun i => t (a + i)
def qBy (t : Nat → Nat) (sz : Nat) (w : Nat → Int32) (p : Nat) : PR (Nat × (Nat → Int32)) :=
  if wordL t (sk t sz p) (sm t sz (sk t sz p)) = [115, 117, 109] then .inr (sm t sz (sk t sz p), upd w 5 (nI 0))
  else if wordL t (sk t sz p) (sm t sz (sk t sz p)) = [109, 111, 115, 116] then .inr (sm t sz (sk t sz p), upd w 5 (nI 1))
  else if wordL t (sk t sz p) (sm t sz (sk t sz p)) = [115, 113, 117, 97, 114, 101] then .inr (sm t sz (sk t sz p), upd w 5 (nI 2))
  else .inl (1, sk t sz p)
def qTerm (t : Nat → Nat) (sz : Nat) (w : Nat → Int32) (a b : Nat) : PR (Nat × (Nat → Int32)) :=
  if wordL t a b = [108, 105, 107, 101] then qTermN t sz w 0 0 99 b
  else if wordL t a b = [111, 100, 100] then qTermN t sz w 1 0 20 b
  else if wordL t a b = [99, 97, 112] then qTermN t sz w 2 1 20 b
  else if wordL t a b = [97, 105, 109] then qTermN t sz w 3 0 99 b
  else if wordL t a b = [98, 121] then qBy t sz w b
  else .inl (1, a)
/-- a clause whose first letter stands at p, its ';' too -/
def qBody (t : Nat → Nat) (sz : Nat) (w : Nat → Int32) (p : Nat) : PR (Nat × (Nat → Int32)) :=
  if sm t sz p = p + 1 ∧ t p < 105 then qLetter t sz w (t p - 97) (p + 1)
  else if sm t sz p = p + 2 ∧ t p < 105 ∧ t (p + 1) < 105 then qPair t sz w (t p - 97) (t (p + 1) - 97) p (p + 2)
  else qTerm t sz w p (sm t sz p)
def qClause (t : Nat → Nat) (sz : Nat) (w : Nat → Int32) (p : Nat) : PR (Nat × (Nat → Int32)) := match qBody t sz w p with
  | .inl e => .inl e
  | .inr (p1, w1) => match qWant t sz 59 p1 with
    | .inl e => .inl e
    | .inr p2 => .inr (p2, w1)
/-- the whole text: how many clauses, the row behind them -/
def qAll (t : Nat → Nat) (sz : Nat) : Nat → Nat → (Nat → Int32) → Nat → PR (Nat × (Nat → Int32))
  | 0, n, w, _ => .inr (n, w)
  | f + 1, n, w, p => if sz ≤ sk t sz p then .inr (n, w) else (match qClause t sz w (sk t sz p) with
    | .inl e => .inl e
    | .inr (p1, w1) => qAll t sz f (n + 1) w1 p1)
def qTell (t : Nat → Nat) (sz : Nat) (w : Nat → Int32) : PR (Nat × (Nat → Int32)) := qAll t sz (sz + 1) 0 w 0
