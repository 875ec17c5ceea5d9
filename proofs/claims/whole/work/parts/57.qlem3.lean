theorem flt_map {fl F A sz : Nat} {fa P : Int32} {α β : Type} {r : PR α} {q : PR β} {ok : α → Prop} {ok2 : β → Prop} (h : fltP fl fa F P A sz r ok) (hb : ∀ e, r = .inl e → q = .inl e) (hc : ∀ a, r = .inr a → ok a → ∃ b, q = .inr b ∧ ok2 b) : fltP fl fa F P A sz q ok2 := by
  obtain ⟨h1, h2, h3⟩ := h
  refine ⟨h1, h2, fun z => ?_⟩
  have h3 := h3 z
  cases r with
  | inl e => rw [hb e rfl]; exact h3
  | inr a =>
    have h3 : F = 0 ∧ P = fa ∧ ok a := h3
    obtain ⟨b, b1, b2⟩ := hc a rfl h3.2.2
    rw [b1]
    exact ⟨h3.1, h3.2.1, b2⟩
theorem qNum_le {t : Nat → Nat} {sz lo hi p : Nat} {a : Nat × Nat} (h : qNum t sz lo hi p = .inr a) : lo ≤ a.1 ∧ a.1 ≤ hi := by
  unfold qNum at h
  split at h
  · cases h
  · split at h
    · split at h
      · cases h
      · next hc => cases h; simp only [not_or, Nat.not_lt] at hc; omega
    · split at h
      · cases h
      · next hc => cases h; simp only [not_or, Nat.not_lt] at hc; omega
theorem neg_gap {v : Nat} (h : v ≤ 100) : (-1 : Int32) * nI v + nI 100 = nI (100 - v) := by
  rw [← pk_sub h, Int32.neg_mul, Int32.one_mul, Int32.add_comm, ← Int32.sub_eq_add_neg]
theorem qPair_no {t : Nat → Nat} {sz c d fr p : Nat} {w : Nat → Int32} (h : (kn (w 0) c && kn (w 0) d) = false) : qPair t sz w c d fr p = .inl (3, fr) := by
  unfold qPair
  rw [if_neg (by rw [h]; decide)]
theorem qPair_bad {t : Nat → Nat} {sz c d fr p : Nat} {w : Nat → Int32} (h : (kn (w 0) c && kn (w 0) d) = true) : ∀ e, qWant t sz 58 p = .inl e → qPair t sz w c d fr p = .inl e := by
  intro e he
  unfold qPair
  rw [if_pos h, he]
theorem qPair_neg {t : Nat → Nat} {sz c d fr p p1 : Nat} {w : Nat → Int32} (h : (kn (w 0) c && kn (w 0) d) = true) (hw : qWant t sz 58 p = .inr p1) (hh : hereO t sz (sk t sz p1) = some 45) : qPair t sz w c d fr p = (match qNum t sz 0 20 (sk t sz p1 + 1) with
        | .inl e => .inl e
        | .inr (v, p2) => .inr (p2, upd w (94 + 8 * c + d) (nI (100 - v)))) := by
  unfold qPair
  rw [if_pos h, hw]
  exact if_pos hh
theorem qPair_pos {t : Nat → Nat} {sz c d fr p p1 : Nat} {w : Nat → Int32} (h : (kn (w 0) c && kn (w 0) d) = true) (hw : qWant t sz 58 p = .inr p1) (hh : ¬ hereO t sz (sk t sz p1) = some 45) : qPair t sz w c d fr p = (match qNum t sz 0 20 (sk t sz p1) with
        | .inl e => .inl e
        | .inr (v, p2) => .inr (p2, upd w (94 + 8 * c + d) (nI (100 + v)))) := by
  unfold qPair
  rw [if_pos h, hw]
  exact if_neg hh
theorem qPair_F {t : Nat → Nat} {sz c d fr p : Nat} {w : Nat → Int32} {e : Nat × Nat} (h : qPair t sz w c d fr p = .inl e) : e.1 < 100 := by
  unfold qPair at h
  split at h
  · split at h
    · next e' h' => cases h; exact qWant_F h'
    · split at h
      · split at h
        · next e' h' => cases h; exact qNum_F h'
        · cases h
      · split at h
        · next e' h' => cases h; exact qNum_F h'
        · cases h
  · cases h; simp
theorem qTermN_F {t : Nat → Nat} {sz k lo hi p : Nat} {w : Nat → Int32} {e : Nat × Nat} (h : qTermN t sz w k lo hi p = .inl e) : e.1 < 100 := by
  unfold qTermN at h
  split at h
  · next e' h' => cases h; exact qNum_F h'
  · cases h
theorem qBy_F {t : Nat → Nat} {sz p : Nat} {w : Nat → Int32} {e : Nat × Nat} (h : qBy t sz w p = .inl e) : e.1 < 100 := by
  unfold qBy at h
  split at h
  · cases h
  · split at h
    · cases h
    · split at h
      · cases h
      · cases h; simp
theorem qTerm_F {t : Nat → Nat} {sz a b : Nat} {w : Nat → Int32} {e : Nat × Nat} (h : qTerm t sz w a b = .inl e) : e.1 < 100 := by
  unfold qTerm at h
  split at h
  · exact qTermN_F h
  · split at h
    · exact qTermN_F h
    · split at h
      · exact qTermN_F h
      · split at h
        · exact qTermN_F h
        · split at h
          · exact qBy_F h
          · cases h; simp
theorem qBody_F {t : Nat → Nat} {sz p : Nat} {w : Nat → Int32} {e : Nat × Nat} (h : qBody t sz w p = .inl e) : e.1 < 100 := by
  unfold qBody at h
  split at h
  · exact qLetter_F h
  · split at h
    · exact qPair_F h
    · exact qTerm_F h
/-! words as numbers, 27 to a letter -/
def cdTo (t : Nat → Nat) (a : Nat) : Nat → Nat
  | 0 => 0
  | k + 1 => 27 * cdTo t a k + (t (a + k) - 97) + 1
theorem cdTo_lt {t : Nat → Nat} {a : Nat} : ∀ {k : Nat}, (∀ i, i < k → t (a + i) ≤ 122) → cdTo t a k < 27 ^ k
  | 0, _ => by simp [cdTo]
  | k + 1, h => by
    have ih := cdTo_lt (k := k) (fun i hi => h i (by omega))
    have := h k (by omega)
    show 27 * cdTo t a k + (t (a + k) - 97) + 1 < 27 ^ k * 27
    omega
theorem cdTo_inj {t u : Nat → Nat} {a b : Nat} : ∀ {k n : Nat}, (∀ i, i < k → 97 ≤ t (a + i) ∧ t (a + i) ≤ 122) → (∀ i, i < n → 97 ≤ u (b + i) ∧ u (b + i) ≤ 122) → cdTo t a k = cdTo u b n → k = n ∧ ∀ i, i < k → t (a + i) = u (b + i)
  | 0, 0, _, _, _ => ⟨rfl, fun i hi => absurd hi (by omega)⟩
  | 0, n + 1, _, _, h => by simp [cdTo] at h
  | k + 1, 0, _, _, h => by simp [cdTo] at h
  | k + 1, n + 1, hk, hn, h => by
    have h : 27 * cdTo t a k + (t (a + k) - 97) + 1 = 27 * cdTo u b n + (u (b + n) - 97) + 1 := h
    have h1 := hk k (by omega)
    have h2 := hn n (by omega)
    obtain ⟨e1, e2⟩ := cdTo_inj (k := k) (n := n) (fun i hi => hk i (by omega)) (fun i hi => hn i (by omega)) (by omega)
    refine ⟨by omega, fun i hi => ?_⟩
    by_cases q : i < k
    · exact e2 i q
    · have : i = k := by omega
      subst this
      subst e1
      omega
/-- what wordOf tells of the letters from a to b -/
def wcd (t : Nat → Nat) (a b : Nat) : Nat := cdTo t a (if b - a < 10 then b - a else 10)
theorem wcd_eq {t : Nat → Nat} {a b : Nat} (L : List Nat) (hL : L.length ≤ 6) (hr : ∀ i, i < L.length → 97 ≤ L.getD i 0 ∧ L.getD i 0 ≤ 122) (ht : ∀ k, a ≤ k → k < b → 97 ≤ t k ∧ t k ≤ 122) : wcd t a b = cdTo (fun i => L.getD i 0) 0 L.length ↔ wordL t a b = L := by
  unfold wcd
  constructor
  · intro h
    obtain ⟨e1, e2⟩ := cdTo_inj (fun i hi => ht (a + i) (by omega) (by split at hi <;> omega)) (fun i hi => by rw [Nat.zero_add]; exact hr i hi) h
    have e3 : b - a = L.length := by split at e1 <;> omega
    unfold wordL
    apply List.ext_getElem
    · simp [e3]
    · intro i h1 h2
      have := e2 i (by rw [e1]; exact h2)
      simp only [List.getElem_map, List.getElem_range]
      rw [this, Nat.zero_add]
      simp [h2]
  · intro h
    have e3 : b - a = L.length := by rw [← h]; simp [wordL]
    rw [if_pos (by omega), e3]
    have key : ∀ n, n ≤ L.length → cdTo t a n = cdTo (fun i => L.getD i 0) 0 n := by
      intro n
      induction n with
      | zero => intro _; rfl
      | succ n ih =>
        intro hn
        show 27 * cdTo t a n + (t (a + n) - 97) + 1 = 27 * cdTo (fun i => L.getD i 0) 0 n + (L.getD (0 + n) 0 - 97) + 1
        rw [ih (by omega), Nat.zero_add]
        have : L.getD n 0 = t (a + n) := by
          rw [← h]
          unfold wordL
          simp only [List.getD_eq_getElem?_getD, List.getElem?_map]
          rw [List.getElem?_range (by omega)]
          rfl
        rw [this]
    exact key _ (Nat.le_refl _)
theorem cd_step {t : Nat → Nat} {a k : Nat} (h : 97 ≤ t (a + k) ∧ t (a + k) ≤ 122) : (27 : Int64) * lN (cdTo t a k) + (nI (t (a + k))).toInt64 - 97 + 1 = lN (cdTo t a (k + 1)) := by
  rw [show (27 : Int64) = lN 27 from rfl, show (97 : Int64) = lN 97 from rfl, nI_l (by omega), lN_mul, lN_add, lN_sub (by omega), lN_1]
  show _ = lN (27 * cdTo t a k + (t (a + k) - 97) + 1)
  congr 1
  omega
def fiveL (a b c d : Nat) : Int64 :=
  if d = 0 then (if c = 0 then ((nI a - nI 97).toInt64 + 1) * 27 + (nI b).toInt64 - 97 + 1 else 27 * (((nI a - nI 97).toInt64 + 1) * 27 + (nI b).toInt64 - 97 + 1) + (nI c).toInt64 - 97 + 1)
  else 27 * (if c = 0 then ((nI a - nI 97).toInt64 + 1) * 27 + (nI b).toInt64 - 97 + 1 else 27 * (((nI a - nI 97).toInt64 + 1) * 27 + (nI b).toInt64 - 97 + 1) + (nI c).toInt64 - 97 + 1) + (nI d).toInt64 - 97 + 1
