theorem nthS_n {f : Nat → Bool} {n p : Nat} (hp : p < 64) (hf : f p = false) : nthS f n (64 - p) p = nthS f n (64 - (p + 1)) (p + 1) := by
  rw [show 64 - p = (64 - (p + 1)) + 1 by omega]
  exact if_neg (by rw [hf]; decide)
theorem nthS_s {f : Nat → Bool} {n p : Nat} (hp : p < 64) (hf : f p = true) (hn : ¬ n = 0) : nthS f n (64 - p) p = nthS f (n - 1) (64 - (p + 1)) (p + 1) := by
  rw [show 64 - p = (64 - (p + 1)) + 1 by omega]
  exact (if_pos hf).trans (if_neg hn)
theorem nthS_z {f : Nat → Bool} {n p : Nat} (hp : p < 64) (hf : f p = true) (hn : n = 0) : nthS f n (64 - p) p = some p := by
  rw [show 64 - p = (64 - (p + 1)) + 1 by omega]
  exact (if_pos hf).trans (if_pos hn)
theorem clM_le (w : Nat → Int32) (s : Nat) : clM w s ≤ 8 := (clM_spec w s).1
theorem mm_le (w : Nat → Int32) : clM w 0 * clM w 1 ≤ 64 := Nat.mul_le_mul (clM_le w 0) (clM_le w 1)
theorem strP_1 {w q : Nat → Int32} {p : Nat} (h : w (94 + p) ≤ 0) : strP w q p = false := by
  unfold strP; rw [decide_eq_true h]; rfl
theorem strP_2 {w q : Nat → Int32} {p : Nat} (hq : ∀ k, k < 16 → q k = cq w k) (hp : p < 64) (h : strB w q (p / 8) (p % 8) = false) : strP w (cq w) p = false := by
  unfold strP; rw [← strB_q hq (by omega) (by omega), h, Bool.and_false]
theorem strP_3 {w q : Nat → Int32} {p : Nat} (hq : ∀ k, k < 16 → q k = cq w k) (hp : p < 64) (h1 : ¬ w (94 + p) ≤ 0) (h : strB w q (p / 8) (p % 8) = true) : strP w (cq w) p = true := by
  unfold strP; rw [← strB_q hq (by omega) (by omega), h, decide_eq_false h1]; rfl
theorem lineL_neg {w : Nat → Int32} {k : Int32} (h : k.toInt < 0) : lineL w k = none := if_pos h
theorem lineL_cell {w : Nat → Int32} {k : Nat} (h : k < clM w 0 * clM w 1) : lineL w (nI k) = some (cellL w (cq w) (k / clM w 0) (k % clM w 0)) := by
  have := mm_le w
  unfold lineL
  rw [nI_toInt (by omega), if_neg (by omega)]
  exact if_pos h
theorem lineL_str {w : Nat → Int32} {k : Nat} (hk : k < 2147483648) (h : clM w 0 * clM w 1 ≤ k) {r : Option Nat} (hr : nthS (strP w (cq w)) (k - clM w 0 * clM w 1) 64 0 = r) : lineL w (nI k) = r.map (fun p => pairL w (p / 8) (p % 8)) := by
  unfold lineL
  rw [nI_toInt hk, if_neg (by omega), if_neg (by show ¬ k < _; omega), show ((k : Int)).toNat = k from rfl, hr]
  cases r <;> rfl
theorem lineL_len {w : Nat → Int32} {k : Int32} {l : List Int32} (h : lineL w k = some l) : l.length ≤ 12 := by
  unfold lineL at h
  split at h
  · cases h
  · split at h
    · cases h
      have := numL_len (cellGap w (cq w) (nI (k.toInt.toNat / clM w 0)) (nI (k.toInt.toNat % clM w 0)))
      simp only [cellL, List.length_append, List.length_cons, List.length_nil]; omega
    · split at h
      · cases h
      · rename_i p _
        cases h
        have := numL_len (w (94 + 8 * (p / 8) + p % 8))
        simp only [pairL, List.length_append, List.length_cons, List.length_nil]; omega
theorem cellL_q {w q : Nat → Int32} (hq : ∀ k, k < 16 → q k = cq w k) (i j : Nat) : cellL w q i j = cellL w (cq w) i j := by
  unfold cellL; rw [cellGap_q hq]
def layP (w lo : Nat → Int32) (k : Int32) (b : Bool) (Lo : Nat → Int32) (Ln : Nat) : Prop := match lineL w k with
  | none => b = false
  | some l => b = true ∧ Lo = putL lo 0 l ∧ Ln = l.length
theorem layP_none {w lo Lo : Nat → Int32} {k : Int32} {Ln : Nat} (h : lineL w k = none) : layP w lo k false Lo Ln := by unfold layP; rw [h]
theorem layP_some {w lo : Nat → Int32} {k : Int32} {l : List Int32} (h : lineL w k = some l) : layP w lo k true (putL lo 0 l) l.length := by unfold layP; rw [h]; exact ⟨rfl, rfl, rfl⟩
theorem layP_f {w lo Lo : Nat → Int32} {k : Int32} {Ln : Nat} {b : Bool} (h : layP w lo k b Lo Ln) (hb : b = false) : lineL w k = none := by
  unfold layP at h
  cases hl : lineL w k with
  | none => rfl
  | some l => rw [hl] at h; rw [h.1] at hb; cases hb
theorem layP_t {w lo Lo : Nat → Int32} {k : Int32} {Ln : Nat} {b : Bool} (h : layP w lo k b Lo Ln) (hb : b = true) : ∃ l, lineL w k = some l ∧ l.length ≤ 12 ∧ Lo = putL lo 0 l ∧ Ln = l.length := by
  unfold layP at h
  cases hl : lineL w k with
  | none => rw [hl] at h; have h : b = false := h; rw [h] at hb; cases hb
  | some l => rw [hl] at h; exact ⟨l, rfl, lineL_len hl, h.2.1, h.2.2⟩
theorem layC_0 (w cl : Nat → Int32) : layC w cl 0 = nI (clM w 0) := by unfold layC; rw [pk_un (by omega)]; exact pk_us
theorem layC_1 (w cl : Nat → Int32) : layC w cl 1 = nI (clM w 1) := pk_us
theorem i32_nat {a : Int32} (h : 0 ≤ a) : ∃ n : Nat, n < 2147483648 ∧ a = nI n := by
  have h1 : 0 ≤ a.toInt := by have := Int32.le_iff_toInt_le.mp h; simpa using this
  have h2 := Int32.toInt_lt a
  refine ⟨a.toInt.toNat, by omega, ?_⟩
  apply Int32.toInt_inj.mp
  rw [nI_toInt (by omega)]
  omega
theorem nI_ge0 {n : Nat} (h : n < 2147483648) : 0 ≤ nI n := by
  apply Int32.le_iff_toInt_le.mpr
  rw [nI_toInt h]
  show (0 : Int) ≤ n
  omega
theorem lineV_no {w : Nat → Int32} {k a : Int32} (h : lineL w k = none) : lineV w k a = (-1000000001) := by unfold lineV; rw [h]
theorem lineV_bad {w : Nat → Int32} {k a : Int32} {l : List Int32} (h : lineL w k = some l) (ha : ¬ 0 ≤ a) : lineV w k a = (-1000000002) := by unfold lineV; rw [h]; exact if_neg ha
theorem lineV_out {w : Nat → Int32} {k : Int32} {a : Nat} {l : List Int32} (h : lineL w k = some l) (hb : a < 2147483648) (ha : l.length ≤ a) : lineV w k (nI a) = (-1) := by
  unfold lineV; rw [h]
  refine (if_pos (nI_ge0 hb)).trans ?_
  rw [nI_toInt hb]
  exact if_neg (by show ¬ a < _; omega)
theorem lineV_in {w lo : Nat → Int32} {k : Int32} {a : Nat} {l : List Int32} (h : lineL w k = some l) (hb : a < 2147483648) (ha : a < l.length) : lineV w k (nI a) = putL lo 0 l a := by
  unfold lineV; rw [h]
  refine (if_pos (nI_ge0 hb)).trans ?_
  rw [nI_toInt hb]
  refine (if_pos (show a < _ from ha)).trans ?_
  have := putL_get l lo 0 a ha
  rw [Nat.zero_add] at this
  rw [this]
  show l.getD a 0 = _
  rw [List.getD_eq_getElem?_getD, List.getElem?_eq_getElem ha]
  rfl
theorem neg_lt {k : Int32} {m : Nat} (h : k.toInt < 0) (hm : m < 2147483648) : k < nI m := by
  apply Int32.lt_iff_toInt_lt.mpr
  rw [nI_toInt hm]
  omega
theorem i32_nat' {a : Int32} (h : ¬ a.toInt < 0) : ∃ n : Nat, n < 2147483648 ∧ a = nI n := i32_nat (Int32.le_iff_toInt_le.mpr (by show (0 : Int) ≤ _; omega))
