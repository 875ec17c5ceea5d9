/-! clauses, as the class reads them -/
theorem flt_any {fl F A sz : Nat} {fa P : Int32} {α : Type} {r : PR α} {ok ok2 : α → Prop} (h : fltP fl fa F P A sz r ok) (hF : ¬ F = 0) : fltP fl fa F P A sz r ok2 := flt_bad h hF (fun _ he => he)
theorem flt_keep {fl F A F2 A2 sz : Nat} {fa P P2 : Int32} {α β : Type} {r : PR α} {r2 : PR β} {ok : α → Prop} {ok2 : β → Prop} (h : fltP fl fa F P A sz r ok) (hF : ¬ F = 0) (h2 : fltP F P F2 P2 A2 sz r2 ok2) : fltP fl fa F2 P2 A2 sz r ok ∧ ¬ F2 = 0 := by
  obtain ⟨a1, a2⟩ := h2.2.1 hF
  subst a1; subst a2
  exact ⟨⟨h2.1, h.2⟩, hF⟩
theorem semi_inl {t : Nat → Nat} {sz : Nat} {r : PR (Nat × (Nat → Int32))} {e : Nat × Nat} (h : r = .inl e) : qSemi t sz r = .inl e := by rw [h]; rfl
/-- a body, then the ';' -/
theorem semi_seq {fl F1 A1 F2 A2 sz : Nat} {fa P1 P2 : Int32} {t : Nat → Nat} {r : PR (Nat × (Nat → Int32))} {W : Nat → Int32} (h1 : fltP fl fa F1 P1 A1 sz r (fun a => A1 = a.1 ∧ W = a.2)) (h2 : fltP F1 P1 F2 P2 A2 sz (qWant t sz 59 A1) (fun a => A2 = a)) : fltP fl fa F2 P2 A2 sz (qSemi t sz r) (fun a => A2 = a.1 ∧ W = a.2) := by
  refine flt_seq h1 h2 (fun e he => semi_inl he) (fun a ha ho => ?_)
  obtain ⟨o1, o2⟩ := ho
  have hq : qSemi t sz r = (match qWant t sz 59 A1 with
    | .inl e => .inl e
    | .inr p2 => .inr (p2, W)) := by
    unfold qSemi
    rw [ha, o1, o2]
    rfl
  rw [hq]
  exact ⟨fun e he => by rw [he], fun b hb hok => ⟨_, by rw [hb], hok, rfl⟩⟩
theorem gG_neg {v : Nat} (h : v ≤ 20) : gG (nI (100 - v)) = -nI v := by
  unfold gG
  rw [if_neg (show ¬ nI (100 - v) = 0 from nI_ne0 (by omega) (by omega))]
  apply Int32.toInt_inj.mp
  rw [Int32.toInt_sub, nI_toInt (by omega), nI_toInt (by omega), Int.bmod_eq_of_le (by omega) (by omega), Int32.toInt_neg, nI_toInt (by omega), Int.bmod_eq_of_le (by omega) (by omega)]
  omega
theorem gG_add {v : Nat} (h : v ≤ 20) : gG (nI (100 + v)) = nI v := by
  unfold gG
  rw [if_neg (show ¬ nI (100 + v) = 0 from nI_ne0 (by omega) (by omega))]
  apply Int32.toInt_inj.mp
  rw [Int32.toInt_sub, nI_toInt (by omega), nI_toInt (by omega), nI_toInt (by omega), Int.bmod_eq_of_le (by omega) (by omega)]
  omega
def mnP (t : Nat → Nat) (sz a : Nat) : Nat := if hereO t sz (sk t sz a) = some 45 then sk t sz a + 1 else sk t sz a
/-- a pair's clause up to its number -/
theorem pr_num {t : Nat → Nat} {sz pa c d fr F1 A1 F2 A2 V : Nat} {fa P1 P2 : Int32} {w : Nat → Int32} (hk : (kn (w 0) c && kn (w 0) d) = true) (h1 : fltP 0 fa F1 P1 A1 sz (qWant t sz 58 pa) (fun a => A1 = a))
    (h2 : fltP F1 P1 F2 P2 A2 sz (qNum t sz 0 20 (mnP t sz A1)) (fun a => V = a.1 ∧ A2 = a.2)) : fltP 0 fa F2 P2 A2 sz (qPair t sz w c d fr pa) (fun a => A2 = a.1 ∧ (if hereO t sz (sk t sz A1) = some 45 then upd w (94 + 8 * c + d) (nI (100 - V)) else upd w (94 + 8 * c + d) (nI (100 + V))) = a.2) ∧ (F2 = 0 → V ≤ 20) := by
  refine ⟨flt_seq h1 h2 (qPair_bad hk) (fun a ha ho => ?_), fun hF => ?_⟩
  · subst ho
    by_cases hm : hereO t sz (sk t sz A1) = some 45
    · rw [qPair_neg hk ha hm]
      unfold mnP
      rw [if_pos hm, if_pos hm]
      refine ⟨fun e he => by rw [he], fun b hb hob => ⟨_, by rw [hb], hob.2, ?_⟩⟩
      rw [hob.1]
    · rw [qPair_pos hk ha hm]
      unfold mnP
      rw [if_neg hm, if_neg hm]
      refine ⟨fun e he => by rw [he], fun b hb hob => ⟨_, by rw [hb], hob.2, ?_⟩⟩
      rw [hob.1]
  · obtain ⟨-, -, a, e1, e2⟩ := flt_good h2 hF
    have := (qNum_le e1).2
    rw [e2.1]
    exact this
theorem letB_1 {t : Nat → Nat} {sz p : Nat} (h : letB8 t sz p = true) : p < sz ∧ 97 ≤ t p ∧ t p < 105 := by
  unfold letB8 at h
  simp only [Bool.and_eq_true, decide_eq_true_eq] at h
  exact h
theorem letB_0 {t : Nat → Nat} {sz p : Nat} (h : letB8 t sz p = false) (h1 : p < sz) (h2 : 97 ≤ t p) : ¬ t p < 105 := by
  intro h3
  unfold letB8 at h
  rw [decide_eq_true h1, decide_eq_true h2, decide_eq_true h3] at h
  cases h
theorem wordL_sm {t : Nat → Nat} {a b : Nat} (h : a ≤ b) : wordL t a (a + (b - a)) = wordL t a b := by rw [show a + (b - a) = b by omega]
/-- how a reading ends: with the first fault, or with so many clauses and the row behind them -/
def rdP (t : Nat → Nat) (sz : Nat) (v : Nat → Int32) (F : Nat) (P : Int32) (n : Nat) (W : Nat → Int32) : Prop := match qTell t sz v with
  | .inl e => F = e.1 ∧ P = nI e.2 ∧ 0 < e.1
  | .inr a => F = 0 ∧ P = (-1) ∧ n = a.1 ∧ W = a.2
/-- ahead of a clause -/
def rdI (t : Nat → Nat) (sz : Nat) (v0 : Nat → Int32) (n p : Nat) (v : Nat → Int32) (F : Nat) (P : Int32) : Prop := p ≤ sz ∧ F < 100 ∧ ((F = 0 ∧ P = (-1) ∧ n ≤ p ∧ ∃ f, sz + 1 ≤ f + p ∧ qTell t sz v0 = qAll t sz f n v p) ∨ (¬ F = 0 ∧ ∃ e, qTell t sz v0 = .inl e ∧ F = e.1 ∧ P = nI e.2 ∧ 0 < e.1))
theorem rdI_0 {t : Nat → Nat} {sz : Nat} {v : Nat → Int32} : rdI t sz v 0 0 v 0 (-1) := ⟨Nat.zero_le _, by omega, Or.inl ⟨rfl, rfl, Nat.le_refl _, sz + 1, by omega, rfl⟩⟩
theorem rdI.full {t : Nat → Nat} {sz n p F : Nat} {v0 v : Nat → Int32} {P : Int32} (h : rdI t sz v0 n p v F P) (hn : sz ≤ sk t sz p) : rdP t sz v0 F P n v := by
  obtain ⟨hp, -, ⟨h1, h2, h3, f, h4, h5⟩ | ⟨h1, e, h2, h3⟩⟩ := h
  · unfold rdP
    obtain ⟨f2, rfl⟩ : ∃ f2, f = f2 + 1 := ⟨f - 1, by
      rcases Nat.eq_zero_or_pos f with q | q
      · subst q; omega
      · omega⟩
    rw [h5, show qAll t sz (f2 + 1) n v p = .inr (n, v) from if_pos hn]
    exact ⟨h1, h2, rfl, rfl⟩
  · unfold rdP; rw [h2]; exact h3
theorem rdI.end_ {t : Nat → Nat} {sz n p F : Nat} {v0 v : Nat → Int32} {P : Int32} (h : rdI t sz v0 n p v F P) (hn : sz ≤ n) : rdP t sz v0 F P n v := by
  by_cases hF : F = 0
  · refine h.full ?_
    obtain ⟨hp, -, ⟨h1, h2, h3, f, h4, h5⟩ | ⟨h1, -⟩⟩ := h
    · have := sk_ge (t := t) (sz := sz) (p := p)
      omega
    · exact absurd hF h1
  · obtain ⟨-, -, ⟨h1, -⟩ | ⟨h1, e, h2, h3⟩⟩ := h
    · exact absurd h1 hF
    · unfold rdP; rw [h2]; exact h3
theorem rdI.bad {t : Nat → Nat} {sz n p F : Nat} {v0 v : Nat → Int32} {P : Int32} (h : rdI t sz v0 n p v F P) (hF : ¬ F = 0) : rdP t sz v0 F P n v := by
  obtain ⟨-, -, ⟨h1, -⟩ | ⟨h1, e, h2, h3⟩⟩ := h
  · exact absurd h1 hF
  · unfold rdP; rw [h2]; exact h3
theorem rdI.step {t : Nat → Nat} {sz n p F2 A2 : Nat} {v0 v W : Nat → Int32} {P P2 : Int32} (h : rdI t sz v0 n p v 0 P) (hn : ¬ sz ≤ sk t sz p) (hs : fltP 0 P F2 P2 A2 sz (qClause t sz v (sk t sz p)) (fun a => A2 = a.1 ∧ W = a.2)) : rdI t sz v0 (n + 1) A2 W F2 P2 := by
  obtain ⟨hp, -, ⟨h1, h2, h3, f, h4, h5⟩ | ⟨h1, -⟩⟩ := h
  · obtain ⟨f2, rfl⟩ : ∃ f2, f = f2 + 1 := ⟨f - 1, by
      have := sk_ge (t := t) (sz := sz) (p := p)
      rcases Nat.eq_zero_or_pos f with q | q
      · subst q; omega
      · omega⟩
    have hF := flt_F hs (by omega) (fun e he => qClause_F he)
    refine ⟨hs.1, hF, ?_⟩
    by_cases hF2 : F2 = 0
    · obtain ⟨-, e2, a, e3, e4, e5⟩ := flt_good hs hF2
      have hg := qClause_ge e3
      have hsk := sk_ge (t := t) (sz := sz) (p := p)
      refine Or.inl ⟨hF2, e2.trans h2, by omega, f2, by omega, ?_⟩
      rw [h5, qAll_s hn e3, e4, e5]
    · right
      refine ⟨hF2, ?_⟩
      have h9 := hs.2.2 rfl
      cases hq : qClause t sz v (sk t sz p) with
      | inl e =>
        rw [hq] at h9
        exact ⟨e, by rw [h5, qAll_b hn hq], h9⟩
      | inr a =>
        rw [hq] at h9
        exact absurd h9.1 hF2
  · exact absurd rfl h1
