/-! reading, as the class does it -/
theorem hereO_is {t : Nat → Nat} {sz p v : Nat} (h : ¬ sz ≤ p) (h2 : t p = v) : hereO t sz p = some v := by unfold hereO; rw [if_neg h, h2]
theorem hereO_no1 {t : Nat → Nat} {sz p v : Nat} (h : sz ≤ p) : ¬ hereO t sz p = some v := by unfold hereO; rw [if_pos h]; intro q; cases q
theorem hereO_no2 {t : Nat → Nat} {sz p v : Nat} (h2 : ¬ t p = v) : ¬ hereO t sz p = some v := fun q => h2 (hereO_some q).2
theorem fg_out {t : Nat → Nat} {sz p : Nat} (h : sz ≤ p) : figO (hereO t sz p) = false := by unfold hereO; rw [if_pos h]; rfl
theorem fg_in {t : Nat → Nat} {sz p : Nat} (h : ¬ sz ≤ p) : figO (hereO t sz p) = (decide (48 ≤ t p) && decide (t p ≤ 57)) := by unfold hereO; rw [if_neg h]; rfl
def letB8 (t : Nat → Nat) (sz p : Nat) : Bool := decide (p < sz) && (decide (97 ≤ t p) && decide (t p < 105))
theorem sml_in {t : Nat → Nat} {sz p : Nat} (h : ¬ sz ≤ p) (h1 : 97 ≤ t p) (h2 : t p ≤ 122) : smlO (hereO t sz p) = true := by
  unfold hereO; rw [if_neg h]; show (decide (97 ≤ t p) && decide (t p ≤ 122)) = true
  rw [decide_eq_true h1, decide_eq_true h2]; rfl
theorem sml_out {t : Nat → Nat} {sz p : Nat} (h : sz ≤ p ∨ t p < 97 ∨ 122 < t p) : smlO (hereO t sz p) = false := by
  cases hs : smlO (hereO t sz p) with
  | false => rfl
  | true => have := smlO_in hs; omega
theorem flt_fail {fl F A sz n p : Nat} {fa P : Int32} {α : Type} {r : PR α} {ok : α → Prop} (hA : A ≤ sz) (hr : r = .inl (n, p)) (hn : 0 < n) (hs : (fl = 0 → F = n ∧ P = nI p) ∧ (¬ fl = 0 → F = fl ∧ P = fa)) : fltP fl fa F P A sz r ok := by
  subst hr
  exact ⟨hA, hs.2, fun e => ⟨(hs.1 e).1, (hs.1 e).2, hn⟩⟩
theorem flt_pass {fl A sz : Nat} {fa : Int32} {α : Type} {r : PR α} {ok : α → Prop} {a : α} (hA : A ≤ sz) (hr : r = .inr a) (ho : ok a) : fltP fl fa fl fa A sz r ok := by
  subst hr
  exact ⟨hA, fun _ => ⟨rfl, rfl⟩, fun e => ⟨e, rfl, ho⟩⟩
/-- the number of figures side by side -/
def vN (t : Nat → Nat) (s : Nat) : Nat → Nat
  | 0 => 0
  | n + 1 => 10 * vN t s n + (t (s + n) - 48)
theorem vN_b {t : Nat → Nat} {sz s : Nat} : ∀ {n : Nat}, (∀ i, i < n → figO (hereO t sz (s + i)) = true) → vN t s n < 10 ^ n
  | 0, _ => by show 0 < 1; omega
  | n + 1, h => by
    have ih := vN_b (n := n) (fun i hi => h i (by omega))
    have := figO_in (h n (by omega))
    show 10 * vN t s n + (t (s + n) - 48) < 10 ^ (n + 1)
    rw [Nat.pow_succ]
    omega
theorem vN_1000 {t : Nat → Nat} {sz s n : Nat} (hn : n ≤ 3) (h : ∀ i, i < n → figO (hereO t sz (s + i)) = true) : vN t s n < 1000 := by
  have := vN_b h
  have h2 : 10 ^ n ≤ 10 ^ 3 := Nat.pow_le_pow_right (by omega) hn
  omega
theorem vN_5 {t : Nat → Nat} {sz s n : Nat} (hn : n ≤ 5) (h : ∀ i, i < n → figO (hereO t sz (s + i)) = true) : vN t s n ≤ 99999 := by
  have := vN_b h
  have h2 : 10 ^ n ≤ 10 ^ 5 := Nat.pow_le_pow_right (by omega) hn
  omega
theorem run_le {t : Nat → Nat} {sz s n : Nat} (hs : s ≤ sz) (h : ∀ i, i < n → figO (hereO t sz (s + i)) = true) : s + n ≤ sz := by
  rcases Nat.eq_zero_or_pos n with q | q
  · omega
  · have := (figO_in (h (n - 1) (by omega))).1
    omega
theorem run_s {t : Nat → Nat} {sz s n : Nat} (h : ∀ i, i < n → figO (hereO t sz (s + i)) = true) (h2 : figO (hereO t sz (s + n)) = true) : ∀ i, i < n + 1 → figO (hereO t sz (s + i)) = true := by
  intro i hi
  by_cases e : i = n
  · rw [e]; exact h2
  · exact h i (by omega)
theorem qFig_is {t : Nat → Nat} {sz p : Nat} (h : figO (hereO t sz p) = true) : qFig t sz 0 p = .inr (t p - 48, p + 1) := if_pos ⟨h, by have := figO_in h; omega⟩
theorem qNum_0 {t : Nat → Nat} {sz lo hi pa n : Nat} (hn : n = 0) (hstop : n = 3 ∨ figO (hereO t sz (sk t sz pa + n)) = false) (hd : ∀ i, i < n → figO (hereO t sz (sk t sz pa + i)) = true) : qNum t sz lo hi pa = .inl (1, sk t sz pa) := by
  subst hn
  rcases hstop with q | q
  · omega
  · refine qNum_bad _ (if_neg (fun z => ?_))
    rw [show sk t sz pa + 0 = sk t sz pa from rfl] at q
    rw [z.1] at q; cases q
theorem qNum_3 {t : Nat → Nat} {sz lo hi pa n : Nat} (hn : 2 < n) (hd : ∀ i, i < n → figO (hereO t sz (sk t sz pa + i)) = true) : qNum t sz lo hi pa = .inl (2, sk t sz pa) := by
  have h0 := hd 0 (by omega)
  rw [qNum_2 (qFig_is h0) (hd 1 (by omega))]
  exact if_pos (Or.inl (hd 2 (by omega)))
theorem qNum_12 {t : Nat → Nat} {sz lo hi pa n : Nat} (h1 : 1 ≤ n) (h2 : n ≤ 2) (hstop : n = 3 ∨ figO (hereO t sz (sk t sz pa + n)) = false) (hd : ∀ i, i < n → figO (hereO t sz (sk t sz pa + i)) = true) : qNum t sz lo hi pa = if vN t (sk t sz pa) n < lo ∨ hi < vN t (sk t sz pa) n then .inl (2, sk t sz pa) else .inr (vN t (sk t sz pa) n, sk t sz pa + n) := by
  have h0 := hd 0 (by omega)
  have hs : figO (hereO t sz (sk t sz pa + n)) = false := by rcases hstop with q | q; omega; exact q
  have e1 : vN t (sk t sz pa) 1 = t (sk t sz pa) - 48 := by show 10 * 0 + (t (sk t sz pa + 0) - 48) = _; rw [Nat.add_zero]; omega
  have e2 : vN t (sk t sz pa) 2 = 10 * (t (sk t sz pa) - 48) + (t (sk t sz pa + 1) - 48) := by show 10 * vN t (sk t sz pa) 1 + (t (sk t sz pa + 1) - 48) = _; rw [e1]
  rcases Nat.lt_or_ge n 2 with q | q
  · obtain rfl : n = 1 := by omega
    rw [qNum_1 (qFig_is h0) hs, e1]
  · obtain rfl : n = 2 := by omega
    rw [qNum_2 (qFig_is h0) (hd 1 (by omega)), e2]
    have hs : figO (hereO t sz (sk t sz pa + 0 + 1 + 1)) = false := hs
    rw [hs]
    simp
/-- ahead of figure h of an edge -/
def edI (t : Nat → Nat) (sz s fl : Nat) (fa : Int32) (h q v F : Nat) (P : Int32) : Prop := q ≤ sz ∧ v ≤ 99999 ∧ F < 100 ∧
  ((¬ fl = 0 ∧ F = fl ∧ P = fa) ∨ (fl = 0 ∧ F = 0 ∧ P = fa ∧ q = s + h ∧ v = vN t s h ∧ ∀ i, i < h → figO (hereO t sz (s + i)) = true) ∨ (fl = 0 ∧ F = 1 ∧ ¬ qRun t sz s 5 = 5 ∧ P = nI (s + qRun t sz s 5)))
theorem edI_0 {t : Nat → Nat} {sz s fl : Nat} {fa : Int32} (hs : s ≤ sz) (hfl : fl < 100) : edI t sz s fl fa 0 s 0 fl fa := by
  refine ⟨hs, by omega, hfl, ?_⟩
  by_cases h : fl = 0
  · exact Or.inr (Or.inl ⟨h, h, rfl, rfl, rfl, fun i hi => absurd hi (by omega)⟩)
  · exact Or.inl ⟨h, rfl, rfl⟩
theorem edI.at {t : Nat → Nat} {sz s fl h q v F : Nat} {fa P : Int32} (he : edI t sz s fl fa h q v F P) (hF : F = 0) : fl = 0 ∧ P = fa ∧ q = s + h ∧ v = vN t s h ∧ ∀ i, i < h → figO (hereO t sz (s + i)) = true := by
  obtain ⟨-, -, -, h1 | h1 | h1⟩ := he
  · omega
  · exact ⟨h1.1, h1.2.2.1, h1.2.2.2.1, h1.2.2.2.2.1, h1.2.2.2.2.2⟩
  · omega
theorem edI.fig {t : Nat → Nat} {sz s fl h q v F : Nat} {fa P : Int32} (he : edI t sz s fl fa h q v F P) (hh : h < 5) (hF : F = 0) (hf : figO (hereO t sz q) = true) : edI t sz s fl fa (h + 1) (q + 1) (10 * v + t q - 48) F P := by
  obtain ⟨a1, a2, a3, a4, a5⟩ := he.at hF
  subst a3
  have hd := run_s a5 hf
  have e : 10 * v + t (s + h) - 48 = vN t s (h + 1) := by
    have := figO_in hf
    rw [a4]
    show _ = 10 * vN t s h + (t (s + h) - 48)
    omega
  have := (figO_in hf).1
  refine ⟨by omega, by rw [e]; exact vN_5 (by omega) hd, he.2.2.1, Or.inr (Or.inl ⟨a1, hF, a2, rfl, e, hd⟩)⟩
theorem edI.bad {t : Nat → Nat} {sz s fl h q v F F2 : Nat} {fa P P2 : Int32} (he : edI t sz s fl fa h q v F P) (hh : h < 5) (hF : F = 0) (hf : figO (hereO t sz q) = false) (hs : (F = 0 → F2 = 1 ∧ P2 = nI q) ∧ (¬ F = 0 → F2 = F ∧ P2 = P)) : edI t sz s fl fa (h + 1) q v F2 P2 := by
  obtain ⟨a1, a2, a3, a4, a5⟩ := he.at hF
  obtain ⟨b1, b2⟩ := hs.1 hF
  subst a3
  have hr := qRun_stop hh a5 hf
  exact ⟨he.1, he.2.1, by omega, Or.inr (Or.inr ⟨a1, b1, by omega, by rw [hr]; exact b2⟩)⟩
theorem edI.end5 {t : Nat → Nat} {sz pa fl h q v F : Nat} {fa P : Int32} (he : edI t sz (sk t sz pa) fl fa h q v F P) (hh : h = 5) : fltP fl fa F P q sz (qEdge t sz pa) (fun p => q = p + 5 ∧ v = vN t p 5 ∧ ∀ i, i < 5 → figO (hereO t sz (p + i)) = true) := by
  subst hh
  obtain ⟨b1, -, -, h1 | h1 | h1⟩ := he
  · exact ⟨b1, fun _ => h1.2, fun e => absurd e h1.1⟩
  · have e : qEdge t sz pa = .inr (sk t sz pa) := if_pos (qRun_all h1.2.2.2.2.2)
    rw [e]
    exact ⟨b1, fun e => absurd h1.1 e, fun _ => ⟨h1.2.1, h1.2.2.1, h1.2.2.2.1, h1.2.2.2.2.1, h1.2.2.2.2.2⟩⟩
  · have e : qEdge t sz pa = .inl (1, sk t sz pa + qRun t sz (sk t sz pa) 5) := if_neg h1.2.2.1
    rw [e]
    exact ⟨b1, fun e => absurd h1.1 e, fun _ => ⟨h1.2.1, h1.2.2.2, by show 0 < 1; omega⟩⟩
theorem edI.endF {t : Nat → Nat} {sz pa fl h q v F : Nat} {fa P : Int32} (he : edI t sz (sk t sz pa) fl fa h q v F P) (hF : ¬ F = 0) : fltP fl fa F P q sz (qEdge t sz pa) (fun p => q = p + 5 ∧ v = vN t p 5 ∧ ∀ i, i < 5 → figO (hereO t sz (p + i)) = true) := by
  obtain ⟨b1, -, -, h1 | h1 | h1⟩ := he
  · exact ⟨b1, fun _ => h1.2, fun e => absurd e h1.1⟩
  · exact absurd h1.2.1 hF
  · have e : qEdge t sz pa = .inl (1, sk t sz pa + qRun t sz (sk t sz pa) 5) := if_neg h1.2.2.1
    rw [e]
    exact ⟨b1, fun e => absurd h1.1 e, fun _ => ⟨h1.2.1, h1.2.2.2, by show 0 < 1; omega⟩⟩
theorem nar_char {x : Nat} (h : x < 256) : vp_nar .char (nI x) = nI x := (sb_byte x h).2.1
