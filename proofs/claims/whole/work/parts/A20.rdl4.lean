theorem strW_all : strW 0 = [108, 105, 107, 101] ∧ strW 1 = [111, 100, 100] ∧ strW 2 = [99, 97, 112] ∧ strW 3 = [97, 105, 109] ∧ strW 4 = [98, 121] ∧ strW 5 = [109, 111, 115, 116] ∧ strW 6 = [115, 113, 117, 97, 114, 101] ∧ strW 7 = [115, 117, 109] := by decide
theorem wd_t {t : Nat → Nat} {a b : Nat} {W L : List Nat} (h : a ≤ b) (hW : W = L) (hd : decide (wordL t a (a + (b - a)) = W) = true) : wordL t a b = L := by
  rw [← wordL_sm h, ← hW]; exact of_decide_eq_true hd
theorem wd_f {t : Nat → Nat} {a b : Nat} {W L : List Nat} (h : a ≤ b) (hW : W = L) (hd : decide (wordL t a (a + (b - a)) = W) = false) : ¬ wordL t a b = L := by
  rw [← wordL_sm h, ← hW]; exact of_decide_eq_false hd
section
variable {t : Nat → Nat} {sz p : Nat} {w : Nat → Int32}
theorem by_most (h : wordL t (sk t sz p) (sm t sz (sk t sz p)) = [109, 111, 115, 116]) : qBy t sz w p = .inr (sm t sz (sk t sz p), upd w 5 (nI 1)) := by
  unfold qBy
  rw [if_neg (by rw [h]; decide), if_pos h]
theorem by_square (h : wordL t (sk t sz p) (sm t sz (sk t sz p)) = [115, 113, 117, 97, 114, 101]) : qBy t sz w p = .inr (sm t sz (sk t sz p), upd w 5 (nI 2)) := by
  unfold qBy
  rw [if_neg (by rw [h]; decide), if_neg (by rw [h]; decide), if_pos h]
theorem by_sum (h : wordL t (sk t sz p) (sm t sz (sk t sz p)) = [115, 117, 109]) : qBy t sz w p = .inr (sm t sz (sk t sz p), upd w 5 (nI 0)) := by
  unfold qBy
  rw [if_pos h]
theorem by_no (h1 : ¬ wordL t (sk t sz p) (sm t sz (sk t sz p)) = [115, 117, 109]) (h2 : ¬ wordL t (sk t sz p) (sm t sz (sk t sz p)) = [109, 111, 115, 116]) (h3 : ¬ wordL t (sk t sz p) (sm t sz (sk t sz p)) = [115, 113, 117, 97, 114, 101]) : qBy t sz w p = .inl (1, sk t sz p) := by
  unfold qBy
  rw [if_neg h1, if_neg h2, if_neg h3]
variable {a b : Nat}
theorem tm_like (h : wordL t a b = [108, 105, 107, 101]) : qTerm t sz w a b = qTermN t sz w 0 0 99 b := by unfold qTerm; rw [if_pos h]
theorem tm_odd (h : wordL t a b = [111, 100, 100]) : qTerm t sz w a b = qTermN t sz w 1 0 20 b := by unfold qTerm; rw [if_neg (by rw [h]; decide), if_pos h]
theorem tm_cap (h : wordL t a b = [99, 97, 112]) : qTerm t sz w a b = qTermN t sz w 2 1 20 b := by unfold qTerm; rw [if_neg (by rw [h]; decide), if_neg (by rw [h]; decide), if_pos h]
theorem tm_aim (h : wordL t a b = [97, 105, 109]) : qTerm t sz w a b = qTermN t sz w 3 0 99 b := by unfold qTerm; rw [if_neg (by rw [h]; decide), if_neg (by rw [h]; decide), if_neg (by rw [h]; decide), if_pos h]
theorem tm_by (h : wordL t a b = [98, 121]) : qTerm t sz w a b = qBy t sz w b := by unfold qTerm; rw [if_neg (by rw [h]; decide), if_neg (by rw [h]; decide), if_neg (by rw [h]; decide), if_neg (by rw [h]; decide), if_pos h]
theorem tm_no (h0 : ¬ wordL t a b = [108, 105, 107, 101]) (h1 : ¬ wordL t a b = [111, 100, 100]) (h2 : ¬ wordL t a b = [99, 97, 112]) (h3 : ¬ wordL t a b = [97, 105, 109]) (h4 : ¬ wordL t a b = [98, 121]) : qTerm t sz w a b = .inl (1, a) := by unfold qTerm; rw [if_neg h0, if_neg h1, if_neg h2, if_neg h3, if_neg h4]
end
