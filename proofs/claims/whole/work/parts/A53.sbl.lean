/-! texts that are written -/
def sbB (xs : List Int32) : Nat → Int32 := putL (fun _ => 0) 0 xs
theorem putL_snoc (x : Int32) (xs : List Int32) (f : Nat → Int32) (n : Nat) : putL f n (xs ++ [x]) = upd (putL f n xs) (n + xs.length) x := by
  rw [← putL_app]
  rfl
theorem sbB_1 (xs : List Int32) (x : Int32) : sbB (xs ++ [x]) = upd (sbB xs) xs.length x := by
  unfold sbB; rw [putL_snoc, Nat.zero_add]
theorem sb_len1 (xs : List Int32) (x : Int32) : (xs ++ [x]).length = xs.length + 1 := by simp
theorem sbB_2 (xs ys : List Int32) : sbB (xs ++ ys) = putL (sbB xs) xs.length ys := by
  unfold sbB; rw [← putL_app, Nat.zero_add]
theorem i2b_n : ∀ c, c < 128 → (nI c).toInt8.toInt32 = nI c := by decide +kernel
theorem narb_n (c : Nat) (h : c < 128) : vp_nar .byte (nI c) = nI c := by
  have := pk_vb (nI c)
  rw [i2b_n c h] at this
  exact this
theorem narb_o (m : Nat) : vp_nar .byte (digOne m) = digOne m := narb_n _ (by omega)
theorem narb_t (m : Nat) (h : m < 100) : vp_nar .byte (digTen m) = digTen m := narb_n _ (by omega)
theorem sb_le {q : Nat} (h : q ≤ 16) : nI q - nI 16 ≤ 0 := by
  rw [Int32.le_iff_toInt_le, pk_sub_toInt (by omega) (by omega), Int32.toInt_zero]
  omega
theorem pk_dec {a : Nat} (h : 1 ≤ a) : nI a + (-1) = nI (a - 1) := by
  obtain ⟨b, rfl⟩ : ∃ b, a = b + 1 := ⟨a - 1, by omega⟩
  exact pk_m1 b
theorem numS_1 : ∀ m, m ≤ 9 → numS (nI m) = [digOne m] := by
  have : ∀ m, m < 10 → numS (nI m) = [digOne m] := by decide +kernel
  exact fun m h => this m (by omega)
theorem numS_2 : ∀ m, m < 100 → 9 < m → numS (nI m) = [digTen m, digOne m] := by decide +kernel
theorem numS_3 : ∀ m, m ≤ 9 → 0 < m → numS (-(nI m)) = [nI 45, digOne m] := by
  have : ∀ m, m < 10 → 0 < m → numS (-(nI m)) = [nI 45, digOne m] := by decide +kernel
  exact fun m h => this m (by omega)
theorem numS_4 : ∀ m, m < 100 → 9 < m → numS (-(nI m)) = [nI 45, digTen m, digOne m] := by decide +kernel
theorem numS_len (g : Int32) : 1 ≤ (numS g).length ∧ (numS g).length ≤ 3 := by
  unfold numS
  split
  · have := numP_len g; omega
  · have := numP_len (-g)
    simp only [List.length_cons]; omega
theorem ng10 : ∀ m, m < 100 → (-(nI m) ≤ (-10) ↔ 9 < m) := by decide +kernel
theorem ng10y (m : Nat) (hm : m < 100) (h : -(nI m) ≤ (-10)) : 9 < m := (ng10 m hm).mp h
theorem ng10n (m : Nat) (hm : m < 100) (h : ¬ (-(nI m) ≤ (-10))) : m ≤ 9 := by
  have := mt (ng10 m hm).mpr h
  omega
theorem ng100 : ∀ m, m < 100 → ¬ (-(nI m) ≤ nI 10 * (-10)) := by decide +kernel
theorem ng100b : ∀ m, m < 100 → (-100) < -(nI m) := by decide +kernel
theorem ng9 : ∀ m, m < 100 → ((-9) ≤ -(nI m) ↔ m ≤ 9) := by decide +kernel
theorem ng9y (m : Nat) (hm : m < 100) (h : (-9) ≤ -(nI m)) : m ≤ 9 := (ng9 m hm).mp h
theorem ng9n (m : Nat) (hm : m < 100) (h : ¬ ((-9) ≤ -(nI m))) : 9 < m := by
  have := mt (ng9 m hm).mpr h
  omega
theorem ngg (x : Int32) : -(-x) = x := Int32.neg_neg
theorem nglt : ∀ m, m < 100 → 0 < m → -(nI m) < 0 := by decide +kernel
theorem ngge : ∀ m, m < 100 → 0 < m → ¬ 0 ≤ -(nI m) := by decide +kernel
theorem and255 : ∀ c, c < 128 → nI c &&& nI 255 = nI c := by decide +kernel
theorem gc_1 {f : Nat → Int32} {e : Nat} {a : Int32} (h : 1 ≤ e) : putL f (e - [a].length) [a] = upd f (e - 1) a := rfl
theorem gc_2 {f : Nat → Int32} {e : Nat} {a b : Int32} (h : 2 ≤ e) : putL f (e - [b, a].length) [b, a] = upd (upd f (e - 1) a) (e - 1 - 1) b := by
  show upd (upd f (e - 2) b) (e - 2 + 1) a = _
  funext k
  rw [upd_at, upd_at, upd_at, upd_at]
  by_cases h1 : k = e - 1
  · rw [if_pos (by omega), if_neg (by omega), if_pos h1]
  · rw [if_neg (by omega), if_neg h1]
    by_cases h2 : k = e - 2
    · rw [if_pos h2, if_pos (by omega)]
    · rw [if_neg h2, if_neg (by omega)]
theorem gc_3 {f : Nat → Int32} {e : Nat} {a b c : Int32} (h : 3 ≤ e) : putL f (e - [c, b, a].length) [c, b, a] = upd (upd (upd f (e - 1) a) (e - 1 - 1) b) (e - 1 - 1 - 1) c := by
  show upd (upd (upd f (e - 3) c) (e - 3 + 1) b) (e - 3 + 1 + 1) a = _
  funext k
  rw [upd_at, upd_at, upd_at, upd_at, upd_at, upd_at]
  by_cases h1 : k = e - 1
  · rw [if_pos (by omega), if_neg (by omega), if_neg (by omega), if_pos h1]
  · rw [if_neg (by omega), if_neg h1]
    by_cases h2 : k = e - 2
    · rw [if_pos (by omega), if_neg (by omega), if_pos (by omega)]
    · rw [if_neg (by omega), if_neg (show ¬ k = e - 1 - 1 by omega)]
      by_cases h3 : k = e - 3
      · rw [if_pos h3, if_pos (by omega)]
      · rw [if_neg h3, if_neg (by omega)]
/-- a number of two figures at most: what is before its sign -/
theorem num99 {g : Int32} (h : -100 < g.toInt ∧ g.toInt < 100) : ∃ m : Nat, m < 100 ∧ (g = nI m ∨ (0 < m ∧ g = -(nI m))) := by
  by_cases h0 : 0 ≤ g.toInt
  · refine ⟨g.toInt.toNat, by omega, Or.inl ?_⟩
    apply Int32.toInt_inj.mp
    rw [nI_toInt (by omega)]
    omega
  · refine ⟨(-g.toInt).toNat, by omega, Or.inr ⟨by omega, ?_⟩⟩
    apply Int32.toInt_inj.mp
    rw [Int32.toInt_neg, nI_toInt (by omega)]
    have e1 : (((-g.toInt).toNat : Nat) : Int) = -g.toInt := by omega
    rw [e1, Int.neg_neg]
    exact (Int32.toInt_bmod g).symm
