/-! the class's own calls: what they ask and keep -/
/-- the partings are those of the row, if the version says so -/
def sgP (r : Nat → Int32) (u : Nat) (sv : Int32) (cA : Nat → Int32) (ctA : Int32) (cB : Nat → Int32) (ctB : Int32) : Prop :=
  (sv = (-1) ∨ ∃ s, s ≤ u ∧ sv = nI s) ∧ (sv = nI u → (∀ d, d < 8 → cA d = clA r 0 d) ∧ ctA = nI (clM r 0) ∧ (∀ d, d < 8 → cB d = clA r 1 d) ∧ ctB = nI (clM r 1))
theorem sgP_set {r : Nat → Int32} {u : Nat} : sgP r u (nI u) (clA r 0) (nI (clM r 0)) (clA r 1) (nI (clM r 1)) := ⟨Or.inr ⟨u, Nat.le_refl _, rfl⟩, fun _ => ⟨fun _ _ => rfl, rfl, fun _ _ => rfl, rfl⟩⟩
theorem sgP.next {r r2 : Nat → Int32} {u u2 : Nat} {sv ctA ctB : Int32} {cA cB : Nat → Int32} (h : sgP r u sv cA ctA cB ctB) (hu : u < u2) (hb : u2 < 2147483648) : sgP r2 u2 sv cA ctA cB ctB := by
  refine ⟨?_, fun e => ?_⟩
  · rcases h.1 with q | ⟨s, q1, q2⟩
    · exact Or.inl q
    · exact Or.inr ⟨s, by omega, q2⟩
  · exfalso
    rcases h.1 with q | ⟨s, q1, q2⟩
    · rw [q] at e
      have := congrArg Int32.toInt e
      rw [nI_toInt hb, show (-1 : Int32).toInt = -1 from rfl] at this
      omega
    · rw [q2] at e
      have := (nI_eq (by omega) hb).mp e
      omega
theorem side_no {x : Int32} (h0 : ¬ x = 0) (h1 : ¬ x = nI 1) : inB x.toInt64 0 1 = false := by
  cases h : inB x.toInt64 0 1 with
  | false => rfl
  | true =>
    obtain ⟨j, hj, e⟩ := inT (n := 1) (by decide) h
    exfalso
    rcases Nat.lt_or_ge j 1 with q | q
    · exact h0 (by rw [e, show j = 0 by omega]; rfl)
    · exact h1 (by rw [e, show j = 1 by omega])
theorem h4_lo {x : Int32} (h : x < 0) : inB x.toInt64 0 4 = false := by
  rw [inB_z]
  rw [Int32.lt_iff_toInt_lt, show (0 : Int32).toInt = 0 from rfl] at h
  rw [show (0 : Int64).toInt = 0 from rfl, decide_eq_false (by omega)]
  rfl
theorem h4_hi {x : Int32} (h : ¬ x < nI 5) : inB x.toInt64 0 4 = false := by
  rw [inB_z]
  rw [Int32.lt_iff_toInt_lt, show (nI 5).toInt = 5 from rfl] at h
  rw [show (4 : Int64).toInt = 4 from rfl, decide_eq_false (show ¬ x.toInt ≤ 4 by omega), Bool.and_false]
theorem rng_lt {x : Int32} {m : Nat} (hm : m < 2147483648) (h0 : ¬ x < 0) (h : x < nI m) : ∃ j, j < m ∧ x = nI j := by
  obtain ⟨j, hj, rfl⟩ := nI_of h0
  exact ⟨j, (nI_ltI hj hm).mp h, rfl⟩
theorem rng_ge {x : Int32} {m : Nat} (hm : m < 2147483648) (h0 : ¬ x < 0) (h : ¬ nI m ≤ x) : ∃ j, j < m ∧ x = nI j := by
  obtain ⟨j, hj, rfl⟩ := nI_of h0
  refine ⟨j, ?_, rfl⟩
  rcases Nat.lt_or_ge j m with q | q
  · exact q
  · exact absurd ((nI_leI hm hj).mpr q) h
theorem sub_add100 {x : Int32} : x - nI 100 + nI 100 = x := by grind
theorem jd_le {x : Int32} (h : (!decide (x ≤ 0)) = false) : x ≤ 0 := by simpa using h
theorem jd_nle {x : Int32} (h : (!decide (x ≤ 0)) = true) : ¬ x ≤ 0 := by simpa using h
theorem gG_100 {r : Nat → Int32} {k : Nat} (h : (!decide (r k ≤ 0)) = true) : gG (r k) + nI 100 = r k := by rw [gG_pos h]; exact sub_add100
theorem ng_lo {x : Int32} (h : x < 0) (z : 0 ≤ x.toInt) : False := by
  rw [Int32.lt_iff_toInt_lt, show (0 : Int32).toInt = 0 from rfl] at h; omega
theorem ng_hi {x : Int32} {m : Nat} (hm : m < 2147483648) (h : nI m ≤ x) (z : x.toInt < (m : Int)) : False := by
  rw [Int32.le_iff_toInt_le, nI_toInt hm] at h; omega
theorem ng_nl {x : Int32} {m : Nat} (hm : m < 2147483648) (h : ¬ x < nI m) (z : x.toInt < (m : Int)) : False := by
  rw [Int32.lt_iff_toInt_lt, nI_toInt hm] at h; omega
theorem cell_jd {r : Nat → Int32} (hg : okG r) {i j : Nat} : winC r (cq r) (nI i) (nI j) (nI 1) (nI 200) 64 = nI (jdN r i j) := by
  rw [winC_n]
  congr 1
  refine cnt_c (fun k hk => ?_)
  obtain ⟨h1, h2⟩ := hg.at hk
  unfold inWin jdP
  rw [show isInB r (cq r) (k / 8) (k % 8) (nI i) (nI j) = inC r i j k from rfl]
  congr 1
  have e : inB (r (94 + k)).toInt64 (nI 1).toInt64 (nI 200).toInt64 = (decide (1 ≤ gN r k) && decide (gN r k ≤ 200)) := by
    rw [h1, inB_nn (by omega) (by omega) (by omega)]
  rw [e]
  by_cases h : gN r k = 0
  · rw [decide_eq_true ((hg.jd hk).mpr h)]; rfl
  · rw [decide_eq_false (fun q => h ((hg.jd hk).mp q)), decide_eq_true (by omega), decide_eq_true (by omega)]; rfl
theorem wrB_k {w : Nat → Int32} {a b g : Int32} (h : (isKn (w 0) a && isKn (w 0) b) = false) : wrB w a b g = true := by
  unfold wrB
  rw [← Bool.and_assoc, h]
  rfl
theorem n1_lo {x : Int32} (h : x < nI 1) : inB x.toInt64 1 5 = false := by
  rw [inB_z]
  rw [Int32.lt_iff_toInt_lt, show (nI 1).toInt = 1 from rfl] at h
  rw [show (1 : Int64).toInt = 1 from rfl, decide_eq_false (by omega)]
  rfl
theorem n5_hi {x : Int32} (h : ¬ x ≤ nI 5) : inB x.toInt64 1 5 = false := by
  rw [inB_z]
  rw [Int32.le_iff_toInt_le, show (nI 5).toInt = 5 from rfl] at h
  rw [show (5 : Int64).toInt = 5 from rfl, decide_eq_false (show ¬ x.toInt ≤ 5 by omega), Bool.and_false]
theorem n15 {x : Int32} {m : Nat} (hm : m < 2147483648) (h1 : ¬ x < nI 1) (h2 : x ≤ nI m) : ∃ j, 1 ≤ j ∧ j ≤ m ∧ x = nI j := by
  rw [Int32.lt_iff_toInt_lt, show (nI 1).toInt = 1 from rfl] at h1
  rw [Int32.le_iff_toInt_le, nI_toInt hm] at h2
  refine ⟨x.toInt.toNat, by omega, by omega, ?_⟩
  apply Int32.toInt_inj.mp
  rw [nI_toInt (by omega)]
  omega
theorem wo_z {w x : Nat → Int32} {n a : Nat} (hn : n = 0) (ha : a < 8) (ea : x n = nI a) : wordTo w x n + sB w a = wordTo w x (n + 1) := by
  rw [← wordTo_z hn ha ea, sB_at ha, show nI 0 = (0 : Int32) from rfl, Int32.add_zero]
theorem wo_t {w x : Nat → Int32} {n a b : Nat} (hn : ¬ n = 0) (ha : a < 8) (hb : b < 8) (ea : x n = nI a) (eb : x (n - 1) = nI b) : wordTo w x n + sB w a + (gapOf w (cq w) b a - nI 100) = wordTo w x (n + 1) := by
  rw [← wordTo_t (q := cq w) (fun _ _ => rfl) hn ha hb ea eb, sB_at ha, Int32.add_assoc]
