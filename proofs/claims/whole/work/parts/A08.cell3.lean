theorem clA_eq {r : Nat → Int32} {side c i : Nat} (hc : c < 8) (hi : i < 2147483648) : clA r side c = nI i ↔ kn (r 0) c = true ∧ nI (pat (clR r side) c) = nI i := by
  unfold clA clI
  rw [if_pos hc]
  by_cases hk : knW r c = true
  · rw [if_pos hk]
    exact ⟨fun h => ⟨hk, h⟩, fun h => h.2⟩
  · rw [if_neg hk]
    constructor
    · intro h
      exfalso
      have := congrArg Int32.toInt h
      rw [nI_toInt hi, show (-1 : Int32).toInt = -1 from rfl] at this
      omega
    · intro h; exact absurd h.1 hk
theorem inCell_1 {r : Nat → Int32} {c d i : Nat} {j : Int32} (hc : c < 8) (hi : i < 2147483648) (h : ¬ clA r 1 c = nI i) : isInB r (cq r) c d (nI i) j = false := by
  unfold isInB
  rw [cq_R r hc]
  by_cases hk : kn (r 0) c = true
  · rw [decide_eq_false (fun q => h ((clA_eq hc hi).mpr ⟨hk, q⟩))]; simp
  · simp at hk; rw [hk]; rfl
theorem inCell_2 {r : Nat → Int32} {c d j : Nat} {i : Int32} (hd : d < 8) (hj : j < 2147483648) (h : ¬ clA r 0 d = nI j) : isInB r (cq r) c d i (nI j) = false := by
  unfold isInB
  rw [cq_L r hd]
  by_cases hk : kn (r 0) d = true
  · rw [decide_eq_false (fun q => h ((clA_eq hd hj).mpr ⟨hk, q⟩))]; simp
  · simp at hk; rw [hk]; simp
theorem inCell_3 {r : Nat → Int32} {c d i j : Nat} (hc : c < 8) (hd : d < 8) (hi : i < 2147483648) (hj : j < 2147483648) (h1 : clA r 1 c = nI i) (h2 : clA r 0 d = nI j) : isInB r (cq r) c d (nI i) (nI j) = true := by
  obtain ⟨a1, a2⟩ := (clA_eq hc hi).mp h1
  obtain ⟨b1, b2⟩ := (clA_eq hd hj).mp h2
  unfold isInB
  rw [cq_R r hc, cq_L r hd, a1, b1, a2, b2]
  simp
theorem mnN_le {t o : Nat} (ht : t ≤ 40) : t ≤ mnN t o ∧ mnN t o ≤ 40 := by unfold mnN; split <;> omega
theorem gv_nlt {m u : Nat} (hm : m ≤ 40) (hu : u ≤ 41) (h : ¬ gv m < gv u) : u ≤ m := by
  rcases Nat.lt_or_ge m u with q | q
  · exact absurd ((gv_lt (by omega) hu).mpr q) h
  · exact q
theorem kk_0 {r : Nat → Int32} {i j o t : Nat} (h : cntB (tyP r i j t) 64 = 0) : kpN r i j o (t + 1) = kpN r i j o t ∧ kSm r i j o (t + 1) = kSm r i j o t ∧ kLs r i j o (t + 1) = kLs r i j o t := ⟨if_pos h, if_pos h, if_pos h⟩
theorem kk_1 {r : Nat → Int32} {i j o t : Nat} (h : ¬ cntB (tyP r i j t) 64 = 0) : kpN r i j o (t + 1) = (if wnN r i j o t ≤ kpN r i j o t then kpN r i j o t else wnN r i j o t) ∧ kSm r i j o (t + 1) = (if wnN r i j o t ≤ kpN r i j o t then kSm r i j o t else wsI r i j o t) ∧ kLs r i j o (t + 1) = (if wnN r i j o t ≤ kpN r i j o t then kLs r i j o t else gv t) := ⟨if_neg h, if_neg h, if_neg h⟩
def zTo (ta : Nat → Int32) (n : Nat) : Nat → Int32 := fun k => if k < n then nI 0 else ta k
theorem zTo_0 {ta : Nat → Int32} : zTo ta 0 = ta := by funext k; unfold zTo; rw [if_neg (by omega)]
theorem zTo_s {ta : Nat → Int32} {n : Nat} : upd (zTo ta n) n (nI 0) = zTo ta (n + 1) := by
  funext k
  rw [upd_at]
  unfold zTo
  by_cases h : k = n
  · rw [if_pos h, if_pos (by omega)]
  · rw [if_neg h]
    by_cases h2 : k < n
    · rw [if_pos h2, if_pos (by omega)]
    · rw [if_neg h2, if_neg (by omega)]
theorem zTo_end {ta r : Nat → Int32} {i j k : Nat} (h : k < 41) : zTo ta 41 k = tyA r i j 0 k := by
  unfold zTo tyA
  rw [if_pos h]
  rfl
