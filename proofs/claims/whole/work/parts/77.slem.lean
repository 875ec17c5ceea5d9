theorem dv_s (v : Nat) {j : Nat} (h : j < 5) : nI (dv v (5 - (j + 1)) / 10) = nI (dv v (5 - j)) := by
  rw [show 5 - j = (5 - (j + 1)) + 1 by omega]; rfl
theorem pj_m {j : Nat} : nI j + (-1) = nI j - nI 1 := by
  rw [Int32.sub_eq_add_neg]; rfl
theorem pj_z {h : Nat} (hh : h ≤ 5) (hn : nI h - nI 1 < 0) : h = 0 := by
  rcases Nat.eq_zero_or_pos h with z | z
  · exact z
  · obtain ⟨j, rfl⟩ : ∃ j, h = j + 1 := ⟨h - 1, by omega⟩
    rw [pj_1] at hn
    exact absurd hn (Int32.not_lt.mpr (nI_ge0 (by omega)))
theorem termB_n {k : Nat} {v : Int32} (hk : k ≤ 4) : termB (nI k) v = inB v.toInt64 (if k = 2 then 1 else 0) (nI (mostN k)).toInt64 := by
  unfold termB
  rw [show (0 : Int64) = lN 0 from rfl, show (4 : Int64) = lN 4 from rfl, inB_n (by omega) (by omega) (by omega), decide_eq_true (show 0 ≤ k by omega), decide_eq_true (show k ≤ 4 by omega), nI_cl (by omega)]
  by_cases h : k = 2
  · rw [if_pos h, if_pos (by rw [h])]; rfl
  · rw [if_neg h, if_neg (fun e => h ((nI_eq (by omega) (by omega)).mp e))]; rfl
def undTo (w : Nat → Int32) (n : Nat) : Nat → Nat → Int32
  | 0 => w
  | i + 1 => cpRow (undTo w n i) (i + n) i
def undoR (w : Nat → Int32) (uk : Nat) (n : Int32) : Int32 × (Nat → Int32) × Nat :=
  if inB n.toInt64 1 16 then (if n.toNatClampNeg ≤ uk then (undTo w n.toNatClampNeg (17 - n.toNatClampNeg) 0, undTo w n.toNatClampNeg (17 - n.toNatClampNeg), uk - n.toNatClampNeg) else ((-1000000003), w, uk)) else ((-1000000002), w, uk)
theorem undoR_bad {w : Nat → Int32} {uk : Nat} {n : Int32} (h : inB n.toInt64 1 16 = false) : undoR w uk n = ((-1000000002), w, uk) := by unfold undoR; rw [h]; rfl
theorem in116 {n : Nat} (h1 : 1 ≤ n) (h2 : n ≤ 16) : inB (nI n).toInt64 1 16 = true := by
  rw [show (1 : Int64) = lN 1 from rfl, show (16 : Int64) = lN 16 from rfl, inB_n (by omega) (by omega) (by omega), decide_eq_true h1, decide_eq_true h2]; rfl
theorem undoR_no {w : Nat → Int32} {uk n : Nat} (h1 : 1 ≤ n) (h2 : n ≤ 16) (h : ¬ n ≤ uk) : undoR w uk (nI n) = ((-1000000003), w, uk) := by
  unfold undoR; rw [in116 h1 h2, nI_cl (by omega)]; exact if_neg h
theorem undoR_ok {w : Nat → Int32} {uk n : Nat} (h1 : 1 ≤ n) (h2 : n ≤ 16) (h : n ≤ uk) : undoR w uk (nI n) = (undTo w n (17 - n) 0, undTo w n (17 - n), uk - n) := by
  unfold undoR; rw [in116 h1 h2, nI_cl (by omega)]; exact if_pos h
def writeR (w bo bt bs : Nat → Int32) (wr : Nat) (c d g : Int32) : Int32 × (Nat → Int32) × (Nat → Int32) × (Nat → Int32) × Nat :=
  if isKn (w 0) c && isKn (w 0) d then (if wr = 20 then ((-1000000004), bo, bt, bs, wr) else (nI (wr + 1), upd bo wr c, upd bt wr d, upd bs wr g, wr + 1)) else ((-1000000001), bo, bt, bs, wr)
theorem writeR_no {w bo bt bs : Nat → Int32} {wr : Nat} {c d g : Int32} (h : (isKn (w 0) c && isKn (w 0) d) = false) : writeR w bo bt bs wr c d g = ((-1000000001), bo, bt, bs, wr) := by unfold writeR; rw [h]; rfl
theorem writeR_full {w bo bt bs : Nat → Int32} {wr : Nat} {c d g : Int32} (hc : isKn (w 0) c = true) (hd : isKn (w 0) d = true) (h : wr = 20) : writeR w bo bt bs wr c d g = ((-1000000004), bo, bt, bs, wr) := by unfold writeR; rw [hc, hd, if_pos (show (true && true) = true from rfl), if_pos h]
theorem writeR_ok {w bo bt bs : Nat → Int32} {wr : Nat} {c d g : Int32} (hc : isKn (w 0) c = true) (hd : isKn (w 0) d = true) (h : ¬ wr = 20) : writeR w bo bt bs wr c d g = (nI (wr + 1), upd bo wr c, upd bt wr d, upd bs wr g, wr + 1) := by unfold writeR; rw [hc, hd, if_pos (show (true && true) = true from rfl), if_neg h]
def seedR (sd x : Int32) : Int32 × Int32 := if 0 ≤ x then (sd, x) else ((-1000000002), sd)
def keepR (w isd : Nat → Int32) (uk : Nat) (kp sd k : Int32) : Int32 × (Nat → Int32) × (Nat → Int32) × Int32 × Nat :=
  if inB k.toInt64 0 1 then (nI 1, cpRow w 0 (17 + k.toNatClampNeg), upd isd k.toNatClampNeg sd, kp ||| (nI 1 <<< (k &&& 31)), 0) else ((-1000000001), w, isd, kp, uk)
theorem keepR_no {w isd : Nat → Int32} {uk : Nat} {kp sd k : Int32} (h : inB k.toInt64 0 1 = false) : keepR w isd uk kp sd k = ((-1000000001), w, isd, kp, uk) := by unfold keepR; rw [h]; rfl
theorem in01 {n : Nat} (h2 : n ≤ 1) : inB (nI n).toInt64 0 1 = true := by
  rw [show (0 : Int64) = lN 0 from rfl, show (1 : Int64) = lN 1 from rfl, inB_n (by omega) (by omega) (by omega), decide_eq_true (Nat.zero_le n), decide_eq_true h2]; rfl
theorem keepR_ok {w isd : Nat → Int32} {uk k : Nat} {kp sd : Int32} (h : k ≤ 1) : keepR w isd uk kp sd (nI k) = (nI 1, cpRow w 0 (17 + k), upd isd k sd, kp ||| (nI 1 <<< (nI k &&& 31)), 0) := by unfold keepR; rw [in01 h, nI_cl (by omega)]; rfl
def goBackR (w isd : Nat → Int32) (uk : Nat) (kp sd k : Int32) : Int32 × (Nat → Int32) × Int32 × Nat :=
  if inB k.toInt64 0 1 then (if hasB kp k then (nI 1, cpRow w (17 + k.toNatClampNeg) 0, isd k.toNatClampNeg, 0) else ((-1000000003), w, sd, uk)) else ((-1000000001), w, sd, uk)
theorem goBackR_no {w isd : Nat → Int32} {uk : Nat} {kp sd k : Int32} (h : inB k.toInt64 0 1 = false) : goBackR w isd uk kp sd k = ((-1000000001), w, sd, uk) := by unfold goBackR; rw [h]; rfl
theorem goBackR_un {w isd : Nat → Int32} {uk : Nat} {kp sd k : Int32} (hi : inB k.toInt64 0 1 = true) (h : hasB kp k = false) : goBackR w isd uk kp sd k = ((-1000000003), w, sd, uk) := by unfold goBackR; rw [hi, h]; rfl
theorem goBackR_ok {w isd : Nat → Int32} {uk k : Nat} {kp sd : Int32} (hi : k ≤ 1) (h : hasB kp (nI k) = true) : goBackR w isd uk kp sd (nI k) = (nI 1, cpRow w (17 + k) 0, isd k, 0) := by unfold goBackR; rw [in01 hi, h, nI_cl (by omega)]; rfl
def updN (t : Nat → Nat) (i x : Nat) : Nat → Nat := fun k => if k = i then x else t k
theorem upd_nI (t : Nat → Nat) (i x : Nat) : upd (fun k => nI (t k)) i (nI x) = fun k => nI (updN t i x k) := by
  funext k
  rw [upd_at]
  unfold updN
  split <;> rfl
def feedR (t : Nat → Nat) (sz : Nat) (c : Int32) : Int32 × (Nat → Nat) × Nat := if inB c.toInt64 0 255 then (if sz = 150 then ((-1000000004), t, sz) else (nI (sz + 1), updN t sz c.toNatClampNeg, sz + 1)) else ((-1000000002), t, sz)
theorem feedR_no {t : Nat → Nat} {sz : Nat} {c : Int32} (h : inB c.toInt64 0 255 = false) : feedR t sz c = ((-1000000002), t, sz) := by unfold feedR; rw [h]; rfl
theorem feedR_full {t : Nat → Nat} {sz : Nat} {c : Int32} (hi : inB c.toInt64 0 255 = true) (h : sz = 150) : feedR t sz c = ((-1000000004), t, sz) := by unfold feedR; rw [hi, if_pos (show true = true from rfl), if_pos h]
theorem feedR_ok {t : Nat → Nat} {sz c : Nat} (hi : inB (nI c).toInt64 0 255 = true) (hc : c ≤ 255) (h : ¬ sz = 150) : feedR t sz (nI c) = (nI (sz + 1), updN t sz c, sz + 1) := by unfold feedR; rw [hi, nI_cl (by omega), if_pos (show true = true from rfl), if_neg h]
