/-! a letter is like itself -/
theorem fOff_self (r : Nat → Int32) (c side h : Nat) : fOff r c c side h = 0 := by
  unfold fOff
  rw [Int32.sub_self]
  rfl
theorem fSum_self (r : Nat → Int32) (c side : Nat) : ∀ h, fSum r c c side h = 0
  | 0 => rfl
  | h + 1 => by unfold fSum; rw [fSum_self r c side h, fOff_self]; rfl
theorem fMost_self (r : Nat → Int32) (c side : Nat) : ∀ h, fMost r c c side h = 0
  | 0 => rfl
  | h + 1 => by unfold fMost; rw [fMost_self r c side h, fOff_self]; rfl
theorem fSq_self (r : Nat → Int32) (c side : Nat) : ∀ h, fSq r c c side h = 0
  | 0 => rfl
  | h + 1 => by unfold fSq; rw [fSq_self r c side h, fOff_self]; rfl
theorem far_self (r : Nat → Int32) (c side : Nat) : farOf r c c side = 0 := by
  unfold farOf
  rw [fSum_self, fMost_self, fSq_self]
  split
  · rfl
  · split <;> rfl
theorem lik_ne {r : Nat → Int32} {kk : Int32} {c side : Nat} (hc : c < 8) (hk : kn kk c = true) (h1 : 0 ≤ r 1) : ¬ bset (fun d => kn kk d && !decide (r 1 < farOf r c d side)) 8 = 0 := by
  intro h
  have := (bset_z.mp h) c hc
  rw [hk, far_self, decide_eq_false (Int32.not_lt.mpr h1)] at this
  cases this
