theorem abs_off {x : Int32} : (if 0 ≤ x then x else 0 - x) = (if 0 ≤ x then x else -x) := by rw [Int32.zero_sub]
theorem fMost_max {a b : Int32} : (if a < b then b else a) = (if b ≤ a then a else b) := by
  by_cases h : a < b
  · rw [if_pos h, if_neg (Int32.not_le.mpr h)]
  · rw [if_neg h, if_pos (Int32.not_lt.mp h)]
theorem wh_mm {x y : Int32} (hy : 0 ≤ y) : (if y < (if x < nI 0 then nI 0 else x) then y else (if x < nI 0 then nI 0 else x)) = (if 0 ≤ x then (if x ≤ y then x else y) else nI 0) := by
  rw [show nI 0 = 0 from rfl]
  by_cases h : x < 0
  · rw [if_pos h, if_neg (Int32.not_lt.mpr hy), if_neg (Int32.not_le.mpr h)]
  · rw [if_neg h, if_pos (Int32.not_lt.mp h)]
    by_cases h2 : y < x
    · rw [if_pos h2, if_neg (Int32.not_le.mpr h2)]
    · rw [if_neg h2, if_pos (Int32.not_lt.mp h2)]
