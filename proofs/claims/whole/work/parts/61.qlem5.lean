/-! a clause goes forward -/
theorem qWant_ge {t : Nat → Nat} {sz ch p a : Nat} (h : qWant t sz ch p = .inr a) : p < a := by
  unfold qWant at h
  split at h
  · cases h; have := sk_ge (t := t) (sz := sz) (p := p); omega
  · cases h
theorem qFig_ge {t : Nat → Nat} {sz least p : Nat} {a : Nat × Nat} (h : qFig t sz least p = .inr a) : p < a.2 := by
  unfold qFig at h
  split at h
  · cases h; simp
  · cases h
theorem qNum_ge {t : Nat → Nat} {sz lo hi p : Nat} {a : Nat × Nat} (h : qNum t sz lo hi p = .inr a) : p ≤ a.2 := by
  have h0 := sk_ge (t := t) (sz := sz) (p := p)
  unfold qNum at h
  split at h
  · cases h
  · next h1 =>
    have := qFig_ge h1
    split at h
    · split at h
      · cases h
      · cases h; dsimp only at this ⊢; omega
    · split at h
      · cases h
      · cases h; dsimp only at this ⊢; omega
theorem qEdge_ge {t : Nat → Nat} {sz p a : Nat} (h : qEdge t sz p = .inr a) : p ≤ a := by
  unfold qEdge at h
  split at h
  · cases h; exact sk_ge
  · cases h
theorem qLetter_ge {t : Nat → Nat} {sz c p : Nat} {w : Nat → Int32} {a : Nat × (Nat → Int32)} (h : qLetter t sz w c p = .inr a) : p ≤ a.1 := by
  unfold qLetter at h
  split at h
  · cases h
  · next h1 =>
    have g1 := qEdge_ge h1
    split at h
    · cases h
    · next h2 =>
      have g2 := qWant_ge h2
      split at h
      · cases h
      · next h3 =>
        have g3 := qEdge_ge h3
        split at h
        · cases h
        · next p4 h4 =>
          have g4 := qWant_ge h4
          have g5 := sk_ge (t := t) (sz := sz) (p := p4)
          split at h
          · cases h
          · next h6 =>
            have g6 := qFig_ge h6
            cases h
            dsimp only at g6 ⊢
            omega
theorem qPair_ge {t : Nat → Nat} {sz c d fr p : Nat} {w : Nat → Int32} {a : Nat × (Nat → Int32)} (h : qPair t sz w c d fr p = .inr a) : p ≤ a.1 := by
  unfold qPair at h
  split at h
  · split at h
    · cases h
    · next p1 h1 =>
      have g1 := qWant_ge h1
      have g2 := sk_ge (t := t) (sz := sz) (p := p1)
      split at h
      · split at h
        · cases h
        · next h3 =>
          have g3 := qNum_ge h3
          cases h
          dsimp only at g3 ⊢
          omega
      · split at h
        · cases h
        · next h3 =>
          have g3 := qNum_ge h3
          cases h
          dsimp only at g3 ⊢
          omega
  · cases h
theorem qTermN_ge {t : Nat → Nat} {sz k lo hi p : Nat} {w : Nat → Int32} {a : Nat × (Nat → Int32)} (h : qTermN t sz w k lo hi p = .inr a) : p ≤ a.1 := by
  unfold qTermN at h
  split at h
  · cases h
  · next h1 =>
    have := qNum_ge h1
    cases h
    exact this
theorem qBy_ge {t : Nat → Nat} {sz p : Nat} {w : Nat → Int32} {a : Nat × (Nat → Int32)} (h : qBy t sz w p = .inr a) : p ≤ a.1 := by
  have h0 := sk_ge (t := t) (sz := sz) (p := p)
  have h1 := sm_ge (t := t) (sz := sz) (p := sk t sz p)
  unfold qBy at h
  split at h
  · cases h; dsimp only; omega
  · split at h
    · cases h; dsimp only; omega
    · split at h
      · cases h; dsimp only; omega
      · cases h
theorem qTerm_ge {t : Nat → Nat} {sz a0 b : Nat} {w : Nat → Int32} {a : Nat × (Nat → Int32)} (h : qTerm t sz w a0 b = .inr a) : b ≤ a.1 := by
  unfold qTerm at h
  split at h
  · exact qTermN_ge h
  · split at h
    · exact qTermN_ge h
    · split at h
      · exact qTermN_ge h
      · split at h
        · exact qTermN_ge h
        · split at h
          · exact qBy_ge h
          · cases h
theorem qBody_ge {t : Nat → Nat} {sz p : Nat} {w : Nat → Int32} {a : Nat × (Nat → Int32)} (h : qBody t sz w p = .inr a) : p ≤ a.1 := by
  unfold qBody at h
  split at h
  · have := qLetter_ge h; omega
  · split at h
    · have := qPair_ge h; omega
    · have := qTerm_ge h
      have := sm_ge (t := t) (sz := sz) (p := p)
      omega
theorem qClause_ge {t : Nat → Nat} {sz p : Nat} {w : Nat → Int32} {a : Nat × (Nat → Int32)} (h : qClause t sz w p = .inr a) : p < a.1 := by
  unfold qClause at h
  split at h
  · cases h
  · next h1 =>
    have g1 := qBody_ge h1
    split at h
    · cases h
    · next h2 =>
      have g2 := qWant_ge h2
      cases h
      dsimp only at g1 ⊢
      omega
theorem qClause_F {t : Nat → Nat} {sz p : Nat} {w : Nat → Int32} {e : Nat × Nat} (h : qClause t sz w p = .inl e) : e.1 < 100 := by
  unfold qClause at h
  split at h
  · next h1 => cases h; exact qBody_F h1
  · split at h
    · next h2 => cases h; exact qWant_F h2
    · cases h
/-! the rows behind tell -/
theorem tell_bad {w w2 : Nat → Int32} (h : ∀ k, 158 ≤ k → w2 k = cpRow w 0 19 k) : ∀ k, k < 3002 → cpRow w2 19 0 k = w k := by
  intro k hk
  by_cases h1 : k < 158
  · have e1 : cpRow w2 19 0 k = w2 (3002 + k) := by
      unfold cpRow cpTo
      rw [if_pos (by omega)]
      exact congrArg w2 (by omega)
    rw [e1, h _ (by omega)]
    unfold cpRow cpTo
    rw [if_pos (by omega)]
    exact congrArg w (by omega)
  · have e1 : cpRow w2 19 0 k = w2 k := by
      unfold cpRow cpTo
      rw [if_neg (by omega)]
    rw [e1, h _ (by omega)]
    unfold cpRow cpTo
    rw [if_neg (by omega)]
theorem tell_ok {w w2 : Nat → Int32} (h : ∀ k, 158 ≤ k → w2 k = cpRow w 0 19 k) : ∀ k, k < 3002 → cpRow (memTo (cpRow (cpRow w2 0 20) 19 0) 0) 20 0 k = if k < 158 then w2 k else if k < 2686 then w (k - 158) else w k := by
  intro k hk
  by_cases h1 : k < 158
  · rw [if_pos h1]
    have e1 : cpRow (memTo (cpRow (cpRow w2 0 20) 19 0) 0) 20 0 k = memTo (cpRow (cpRow w2 0 20) 19 0) 0 (3160 + k) := by
      show cpTo _ 20 0 158 k = _
      unfold cpTo
      rw [if_pos (by omega)]
      exact congrArg _ (by omega)
    have e2 : memTo (cpRow (cpRow w2 0 20) 19 0) 0 (3160 + k) = cpRow (cpRow w2 0 20) 19 0 (3160 + k) := by
      unfold memTo
      rw [if_neg (by omega)]
    have e3 : cpRow (cpRow w2 0 20) 19 0 (3160 + k) = cpRow w2 0 20 (3160 + k) := by
      show cpTo _ 19 0 158 _ = _
      unfold cpTo
      rw [if_neg (by omega)]
    rw [e1, e2, e3]
    unfold cpRow cpTo
    rw [if_pos (by omega)]
    exact congrArg w2 (by omega)
  · rw [if_neg h1]
    have e1 : cpRow (memTo (cpRow (cpRow w2 0 20) 19 0) 0) 20 0 k = memTo (cpRow (cpRow w2 0 20) 19 0) 0 k := by
      show cpTo _ 20 0 158 k = _
      unfold cpTo
      rw [if_neg (by omega)]
    rw [e1]
    have low : ∀ j, 158 ≤ j → j < 3002 → cpRow w2 0 20 j = w j := by
      intro j h2 h3
      have : cpRow w2 0 20 j = w2 j := by
        show cpTo _ 0 20 158 j = _
        unfold cpTo
        rw [if_neg (by omega)]
      rw [this, h j h2]
      show cpTo _ 0 19 158 j = _
      unfold cpTo
      rw [if_neg (by omega)]
    have all : ∀ j, j < 3002 → cpRow (cpRow w2 0 20) 19 0 j = w j := by
      intro j hj
      by_cases h2 : j < 158
      · have : cpRow (cpRow w2 0 20) 19 0 j = cpRow w2 0 20 (3002 + j) := by
          show cpTo _ 19 0 158 j = _
          unfold cpTo
          rw [if_pos (by omega)]
          exact congrArg _ (by omega)
        rw [this]
        have : cpRow w2 0 20 (3002 + j) = w2 (3002 + j) := by
          show cpTo _ 0 20 158 _ = _
          unfold cpTo
          rw [if_neg (by omega)]
        rw [this, h _ (by omega)]
        show cpTo _ 0 19 158 _ = _
        unfold cpTo
        rw [if_pos (by omega)]
        exact congrArg w (by omega)
      · have : cpRow (cpRow w2 0 20) 19 0 j = cpRow w2 0 20 j := by
          show cpTo _ 19 0 158 j = _
          unfold cpTo
          rw [if_neg (by omega)]
        rw [this]
        exact low j (by omega) hj
    by_cases h2 : k < 2686
    · rw [if_pos h2]
      have : memTo (cpRow (cpRow w2 0 20) 19 0) 0 k = cpRow (cpRow w2 0 20) 19 0 (k - 158) := by
        unfold memTo
        rw [if_pos (by omega)]
      rw [this, all _ (by omega)]
    · rw [if_neg h2]
      have : memTo (cpRow (cpRow w2 0 20) 19 0) 0 k = cpRow (cpRow w2 0 20) 19 0 k := by
        unfold memTo
        rw [if_neg (by omega)]
      rw [this, all _ hk]
/-- what tell answers and leaves -/
def tellP (t : Nat → Nat) (sz uk : Nat) (w : Nat → Int32) (V : Int32) (F : Nat) (P : Int32) (U : Nat) (W : Nat → Int32) : Prop := match qTell t sz (cpRow w 0 19) with
  | .inl e => V = (-10) - nI e.1 ∧ F = e.1 ∧ P = nI e.2 ∧ U = uk ∧ e.1 < 100 ∧ ∀ k, k < 3002 → W k = w k
  | .inr a => V = nI a.1 ∧ F = 0 ∧ P = (-1) ∧ U = (if 16 ≤ uk then 16 else uk + 1) ∧ ∀ k, k < 3002 → W k = if k < 158 then a.2 k else if k < 2686 then w (k - 158) else w k
theorem qAll_s {t : Nat → Nat} {sz f n p : Nat} {w : Nat → Int32} {a : Nat × (Nat → Int32)} (h : ¬ sz ≤ sk t sz p) (hc : qClause t sz w (sk t sz p) = .inr a) : qAll t sz (f + 1) n w p = qAll t sz f (n + 1) a.2 a.1 := by
  show (if sz ≤ sk t sz p then _ else _) = _
  rw [if_neg h, hc]
theorem qAll_b {t : Nat → Nat} {sz f n p : Nat} {w : Nat → Int32} {e : Nat × Nat} (h : ¬ sz ≤ sk t sz p) (hc : qClause t sz w (sk t sz p) = .inl e) : qAll t sz (f + 1) n w p = .inl e := by
  show (if sz ≤ sk t sz p then _ else _) = _
  rw [if_neg h, hc]
