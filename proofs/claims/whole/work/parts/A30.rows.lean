/-! what a row promises is kept -/
def tmOK (r : Nat → Int32) : Prop := (∃ a, a ≤ 99 ∧ r 1 = nI a) ∧ (∃ a, a ≤ 20 ∧ r 2 = nI a) ∧ (∃ a, a ≤ 20 ∧ r 3 = nI a) ∧ (∃ a, a ≤ 99 ∧ r 4 = nI a) ∧ (∃ a, a ≤ 2 ∧ r 5 = nI a)
def rowOK (r : Nat → Int32) : Prop := okW r ∧ okD r ∧ okG r ∧ tmOK r
theorem rowOK.lk {r : Nat → Int32} (h : rowOK r) : 0 ≤ r 1 := by
  obtain ⟨a, h1, h2⟩ := h.2.2.2.1
  rw [h2]; exact nI_ge0 (by omega)
theorem rowOK.cap {r : Nat → Int32} (h : rowOK r) : 0 ≤ r 3 := by
  obtain ⟨a, h1, h2⟩ := h.2.2.2.2.2.1
  rw [h2]; exact nI_ge0 (by omega)
theorem rowOK_c {r q : Nat → Int32} (h : rowOK r) (e : ∀ k, k < 158 → q k = r k) : rowOK q := by
  obtain ⟨⟨⟨m, m1, m2⟩, w2, w3⟩, d, g, ⟨t1, t2, t3, t4, t5⟩⟩ := h
  refine ⟨⟨⟨m, m1, by rw [e 0 (by omega)]; exact m2⟩, fun k hk => ?_, fun k hk hp => ?_⟩, fun k h1 h2 => ?_, fun k hk => ?_, ?_, ?_, ?_, ?_, ?_⟩
  · rw [e _ (by omega)]; exact w2 k hk
  · rw [e _ (by omega)] at hp; rw [e 0 (by omega)]; exact w3 k hk hp
  · rw [e _ (by omega)]; exact d k h1 h2
  · rw [e _ (by omega)]; exact g k hk
  · rw [e _ (by omega)]; exact t1
  · rw [e _ (by omega)]; exact t2
  · rw [e _ (by omega)]; exact t3
  · rw [e _ (by omega)]; exact t4
  · rw [e _ (by omega)]; exact t5
theorem bits_or : ∀ m, m < 256 → ∀ c, c < 8 → (∃ n, n < 256 ∧ nI m ||| bt c = nI n) ∧ ∀ j, j < 8 → kn (nI m ||| bt c) j = (kn (nI m) j || decide (j = c)) := by
  intro m hm c hc
  have h : ∀ m, m < 256 → ∀ c, c < 8 → ((nI m ||| bt c).toNatClampNeg < 256 ∧ nI m ||| bt c = nI (nI m ||| bt c).toNatClampNeg) ∧ ∀ j, j < 8 → kn (nI m ||| bt c) j = (kn (nI m) j || decide (j = c)) := by decide +kernel
  obtain ⟨⟨a, b⟩, d⟩ := h m hm c hc
  exact ⟨⟨_, a, b⟩, d⟩
theorem bits_an : ∀ m, m < 256 → ∀ c, c < 8 → (∃ n, n < 256 ∧ nI m &&& (bt c ^^^ (-1)) = nI n) ∧ ∀ j, j < 8 → kn (nI m &&& (bt c ^^^ (-1))) j = (kn (nI m) j && !decide (j = c)) := by
  intro m hm c hc
  have h : ∀ m, m < 256 → ∀ c, c < 8 → ((nI m &&& (bt c ^^^ (-1))).toNatClampNeg < 256 ∧ nI m &&& (bt c ^^^ (-1)) = nI (nI m &&& (bt c ^^^ (-1))).toNatClampNeg) ∧ ∀ j, j < 8 → kn (nI m &&& (bt c ^^^ (-1))) j = (kn (nI m) j && !decide (j = c)) := by decide +kernel
  obtain ⟨⟨a, b⟩, d⟩ := h m hm c hc
  exact ⟨⟨_, a, b⟩, d⟩
theorem rKnow_hi2 {r : Nat → Int32} {c wd k : Nat} {x y : Nat → Nat} (h1 : ¬ k = 0) (h2 : ¬ k = 86 + c) (h3 : k < 6 ∨ 86 ≤ k) (hc : c < 8) : rKnow r c x y wd k = r k := by
  unfold rKnow
  rw [pk_un h1, pk_un h2]
  unfold rEdge
  rw [if_neg (by omega), if_neg (by omega)]
theorem rowOK.know {r : Nat → Int32} (h : rowOK r) {c wd : Nat} {x y : Nat → Nat} (hc : c < 8) (hx : ∀ i, i < 5 → x i < 10) (hy : ∀ i, i < 5 → y i < 10) : rowOK (rKnow r c x y wd) := by
  obtain ⟨⟨⟨m, m1, m2⟩, w2, w3⟩, d, g, ⟨t1, t2, t3, t4, t5⟩⟩ := h
  have e0 : rKnow r c x y wd 0 = r 0 ||| bt c := by unfold rKnow; exact pk_us
  obtain ⟨⟨n, n1, n2⟩, hk⟩ := bits_or m m1 c hc
  have eg : ∀ k, k < 64 → rKnow r c x y wd (94 + k) = r (94 + k) := fun k hk => rKnow_hi2 (by omega) (by omega) (by omega) hc
  have et : ∀ k, 1 ≤ k → k < 6 → rKnow r c x y wd k = r k := fun k h1 h2 => rKnow_hi2 (by omega) (by omega) (by omega) hc
  refine ⟨⟨⟨n, n1, by rw [e0, m2]; exact n2⟩, fun k hk => ?_, fun k hk9 hp => ?_⟩, fun k h1 h2 => ?_, fun k hk => ?_, ?_, ?_, ?_, ?_, ?_⟩
  · rw [eg k hk]; exact w2 k hk
  · rw [eg k hk9] at hp
    obtain ⟨a, b⟩ := w3 k hk9 hp
    rw [e0, m2, hk _ (by omega), hk _ (by omega), ← m2, a, b]
    exact ⟨rfl, rfl⟩
  · have e2 : rKnow r c x y wd k = rEdge (rEdge r c 0 x) c 1 y k := by unfold rKnow; rw [pk_un (by omega), pk_un (by omega)]
    rw [e2]
    unfold rEdge
    by_cases q1 : 6 + 40 * 1 + 5 * c ≤ k ∧ k < 6 + 40 * 1 + 5 * c + 5
    · rw [if_pos q1]; exact ⟨_, hy _ (by omega), rfl⟩
    · rw [if_neg q1]
      by_cases q2 : 6 + 40 * 0 + 5 * c ≤ k ∧ k < 6 + 40 * 0 + 5 * c + 5
      · rw [if_pos q2]; exact ⟨_, hx _ (by omega), rfl⟩
      · rw [if_neg q2]; exact d k h1 h2
  · rw [eg k hk]; exact g k hk
  · rw [et 1 (by omega) (by omega)]; exact t1
  · rw [et 2 (by omega) (by omega)]; exact t2
  · rw [et 3 (by omega) (by omega)]; exact t3
  · rw [et 4 (by omega) (by omega)]; exact t4
  · rw [et 5 (by omega) (by omega)]; exact t5
theorem rowOK.drop {r : Nat → Int32} (h : rowOK r) {c : Nat} (hc : c < 8) : rowOK (dropR r c) := by
  obtain ⟨⟨⟨m, m1, m2⟩, w2, w3⟩, d, g, ⟨t1, t2, t3, t4, t5⟩⟩ := h
  have e0 : dropR r c 0 = r 0 &&& (bt c ^^^ (-1)) := dropR_0
  obtain ⟨⟨n, n1, n2⟩, hk⟩ := bits_an m m1 c hc
  have el : ∀ k, 1 ≤ k → k < 94 → dropR r c k = r k := fun k h1 h2 => by unfold dropR; rw [forgTo_lo (by omega), pk_un (by omega)]
  have eg : ∀ k, k < 64 → dropR r c (94 + k) = if k / 8 = c ∨ k % 8 = c then nI 0 else r (94 + k) := by
    intro k hk
    unfold dropR forgTo
    rw [show 94 + k - 94 = k by omega]
    by_cases q : k / 8 = c ∨ k % 8 = c
    · rw [if_pos q, if_pos ⟨by omega, by omega, by omega⟩]
    · rw [if_neg q, if_neg (by omega), pk_un (by omega)]
  refine ⟨⟨⟨n, n1, by rw [e0, m2]; exact n2⟩, fun k hk => ?_, fun k hk9 hp => ?_⟩, fun k h1 h2 => ?_, fun k hk => ?_, ?_, ?_, ?_, ?_, ?_⟩
  · rw [eg k hk]
    split
    · exact ⟨0, by omega, rfl⟩
    · exact w2 k hk
  · rw [eg k hk9] at hp
    by_cases q : k / 8 = c ∨ k % 8 = c
    · rw [if_pos q] at hp; exact absurd (by decide) hp
    · rw [if_neg q] at hp
      obtain ⟨a, b⟩ := w3 k hk9 hp
      rw [e0, m2, hk _ (by omega), hk _ (by omega), ← m2, a, b, decide_eq_false (fun z => q (Or.inl z)), decide_eq_false (fun z => q (Or.inr z))]
      exact ⟨rfl, rfl⟩
  · rw [el k (by omega) (by omega)]; exact d k h1 h2
  · rw [eg k hk]
    split
    · exact ⟨0, Or.inl rfl, rfl⟩
    · exact g k hk
  · rw [el 1 (by omega) (by omega)]; exact t1
  · rw [el 2 (by omega) (by omega)]; exact t2
  · rw [el 3 (by omega) (by omega)]; exact t3
  · rw [el 4 (by omega) (by omega)]; exact t4
  · rw [el 5 (by omega) (by omega)]; exact t5
theorem rowOK.gap {r : Nat → Int32} (h : rowOK r) {c d x : Nat} (hc : c < 8) (hd : d < 8) (hx : x = 0 ∨ (80 ≤ x ∧ x ≤ 120)) (kc : kn (r 0) c = true) (kd : kn (r 0) d = true) : rowOK (upd r (94 + 8 * c + d) (nI x)) := by
  obtain ⟨⟨⟨m, m1, m2⟩, w2, w3⟩, dd, g, ⟨t1, t2, t3, t4, t5⟩⟩ := h
  refine ⟨⟨⟨m, m1, by rw [pk_un (by omega)]; exact m2⟩, fun k hk => ?_, fun k hk hp => ?_⟩, fun k h1 h2 => ?_, fun k hk => ?_, ?_, ?_, ?_, ?_, ?_⟩
  · rw [upd_at]
    by_cases q : 94 + k = 94 + 8 * c + d
    · rw [if_pos q]; exact ⟨x, by omega, rfl⟩
    · rw [if_neg q]; exact w2 k hk
  · rw [upd_at] at hp
    rw [pk_un (show 0 ≠ 94 + 8 * c + d by omega)]
    by_cases q : 94 + k = 94 + 8 * c + d
    · rw [show k / 8 = c by omega, show k % 8 = d by omega]; exact ⟨kc, kd⟩
    · rw [if_neg q] at hp; exact w3 k hk hp
  · rw [pk_un (by omega)]; exact dd k h1 h2
  · rw [upd_at]
    by_cases q : 94 + k = 94 + 8 * c + d
    · rw [if_pos q]; exact ⟨x, hx, rfl⟩
    · rw [if_neg q]; exact g k hk
  · rw [pk_un (by omega)]; exact t1
  · rw [pk_un (by omega)]; exact t2
  · rw [pk_un (by omega)]; exact t3
  · rw [pk_un (by omega)]; exact t4
  · rw [pk_un (by omega)]; exact t5
theorem rowOK.term {r : Nat → Int32} (h : rowOK r) {k x : Nat} (hk : k < 5) (hx : x ≤ mostN k) : rowOK (upd r (1 + k) (nI x)) := by
  obtain ⟨⟨⟨m, m1, m2⟩, w2, w3⟩, dd, g, ⟨t1, t2, t3, t4, t5⟩⟩ := h
  refine ⟨⟨⟨m, m1, by rw [pk_un (by omega)]; exact m2⟩, fun j hj => ?_, fun j hj hp => ?_⟩, fun j h1 h2 => ?_, fun j hj => ?_, ?_, ?_, ?_, ?_, ?_⟩
  · rw [pk_un (by omega)]; exact w2 j hj
  · rw [pk_un (by omega)] at hp; rw [pk_un (by omega)]; exact w3 j hj hp
  · rw [pk_un (by omega)]; exact dd j h1 h2
  · rw [pk_un (by omega)]; exact g j hj
  · rw [upd_at]
    by_cases q : 1 = 1 + k
    · rw [if_pos q]; obtain rfl : k = 0 := by omega
      exact ⟨x, hx, rfl⟩
    · rw [if_neg q]; exact t1
  · rw [upd_at]
    by_cases q : 2 = 1 + k
    · rw [if_pos q]; obtain rfl : k = 1 := by omega
      exact ⟨x, hx, rfl⟩
    · rw [if_neg q]; exact t2
  · rw [upd_at]
    by_cases q : 3 = 1 + k
    · rw [if_pos q]; obtain rfl : k = 2 := by omega
      exact ⟨x, hx, rfl⟩
    · rw [if_neg q]; exact t3
  · rw [upd_at]
    by_cases q : 4 = 1 + k
    · rw [if_pos q]; obtain rfl : k = 3 := by omega
      exact ⟨x, hx, rfl⟩
    · rw [if_neg q]; exact t4
  · rw [upd_at]
    by_cases q : 5 = 1 + k
    · rw [if_pos q]; obtain rfl : k = 4 := by omega
      exact ⟨x, hx, rfl⟩
    · rw [if_neg q]; exact t5
/-! deeds: what they answer and leave -/
def deedC (r : Nat → Int32) (u fi pc : Nat) (rh : Nat → Nat → Int32) (V : Int32) (r2 : Nat → Int32) : Int32 × (Nat → Int32) × Nat × Nat × Nat × (Nat → Nat → Int32) := (V, r2, u + 1, memR fi pc rh r)
def stayC (r : Nat → Int32) (u fi pc : Nat) (rh : Nat → Nat → Int32) (V : Int32) : Int32 × (Nat → Int32) × Nat × Nat × Nat × (Nat → Nat → Int32) := (V, r, u, fi, pc, rh)
theorem deed_eq {r r2 : Nat → Int32} {u fi pc f2 c2 : Nat} {rh rh2 : Nat → Nat → Int32} {V : Int32} (h : (f2, c2, rh2) = memR fi pc rh r) : (V, r2, u + 1, f2, c2, rh2) = deedC r u fi pc rh V r2 := by
  unfold deedC; rw [← h]
def letterC (r : Nat → Int32) (u fi pc : Nat) (rh : Nat → Nat → Int32) (c l x d : Int32) := if letB c l x d then deedC r u fi pc rh (onesTo (rKnow r c.toNatClampNeg (dgt l.toNatClampNeg) (dgt x.toNatClampNeg) d.toNatClampNeg 0) 8) (rKnow r c.toNatClampNeg (dgt l.toNatClampNeg) (dgt x.toNatClampNeg) d.toNatClampNeg) else stayC r u fi pc rh (-1000000002)
theorem in07 {c : Nat} (h : c < 8) : inB (nI c).toInt64 0 7 = true := by
  have := inB_n (a := c) (lo := 0) (hi := 7) (by omega) (by omega) (by omega)
  rw [show (0 : Int64) = lN 0 from rfl, show (7 : Int64) = lN 7 from rfl, this, decide_eq_true (by omega), decide_eq_true (by omega)]; rfl
theorem in19 {d : Nat} (h1 : 1 ≤ d) (h : d ≤ 9) : inB (nI d).toInt64 1 9 = true := by
  have := inB_n (a := d) (lo := 1) (hi := 9) (by omega) (by omega) (by omega)
  rw [show (1 : Int64) = lN 1 from rfl, show (9 : Int64) = lN 9 from rfl, this, decide_eq_true h1, decide_eq_true h]; rfl
theorem in_lo {x : Int32} {lo hi : Int64} {n : Nat} (hl : lo.toInt = (n : Int)) (hn : n < 2147483648) (h : x < nI n) : inB x.toInt64 lo hi = false := by
  rw [inB_z]
  rw [Int32.lt_iff_toInt_lt, nI_toInt hn] at h
  rw [hl, decide_eq_false (by omega)]; rfl
theorem in_hi {x : Int32} {lo hi : Int64} {n : Nat} (hh : hi.toInt = (n : Int)) (hn : n < 2147483648) (h : ¬ x ≤ nI n) : inB x.toInt64 lo hi = false := by
  rw [inB_z]
  rw [Int32.le_iff_toInt_le, nI_toInt hn] at h
  rw [hh, decide_eq_false (show ¬ x.toInt ≤ (n : Int) by omega), Bool.and_false]
theorem in_hi8 {x : Int32} {lo : Int64} {n : Nat} {hi : Int64} (hh : hi.toInt + 1 = (n : Int)) (hn : n < 2147483648) (h : nI n ≤ x) : inB x.toInt64 lo hi = false := by
  rw [inB_z]
  rw [Int32.le_iff_toInt_le, nI_toInt hn] at h
  rw [decide_eq_false (show ¬ x.toInt ≤ hi.toInt by omega), Bool.and_false]
theorem letterC_no {r : Nat → Int32} {u fi pc : Nat} {rh : Nat → Nat → Int32} {c l x d : Int32} (h : letB c l x d = false) : letterC r u fi pc rh c l x d = stayC r u fi pc rh (-1000000002) := by unfold letterC; rw [h]; rfl
theorem letterC_ok {r : Nat → Int32} {u fi pc c l x d : Nat} {rh : Nat → Nat → Int32} (hc : c < 8) (hl : l ≤ 99999) (hx : x ≤ 99999) (il : inB (nI l).toInt64 0 99999 = true) (ix : inB (nI x).toInt64 0 99999 = true) (d1 : 1 ≤ d) (d2 : d ≤ 9) : letterC r u fi pc rh (nI c) (nI l) (nI x) (nI d) = deedC r u fi pc rh (onesTo (rKnow r c (dgt l) (dgt x) d 0) 8) (rKnow r c (dgt l) (dgt x) d) := by
  unfold letterC letB
  rw [in07 hc, il, ix, in19 d1 d2, nI_cl (by omega), nI_cl (by omega), nI_cl (by omega), nI_cl (by omega)]
  rfl
theorem kn_256 {r : Nat → Int32} (h : rowOK r) : ∃ m : Nat, m < 256 ∧ r 0 = nI m := h.1.1
def forgetC (r : Nat → Int32) (u fi pc : Nat) (rh : Nat → Nat → Int32) (c : Int32) := if isKn (r 0) c then deedC r u fi pc rh (onesTo (dropR r c.toNatClampNeg 0) 8) (dropR r c.toNatClampNeg) else stayC r u fi pc rh (-1000000001)
def termC (r : Nat → Int32) (u fi pc : Nat) (rh : Nat → Nat → Int32) (k v : Int32) := if termB k v then deedC r u fi pc rh (r (1 + k.toNatClampNeg)) (upd r (1 + k.toNatClampNeg) v) else stayC r u fi pc rh (-1000000002)
def withdrawC (r : Nat → Int32) (u fi pc : Nat) (rh : Nat → Nat → Int32) (c d : Int32) := if isKn (r 0) c && isKn (r 0) d then (if r (94 + 8 * c.toNatClampNeg + d.toNatClampNeg) ≤ 0 then stayC r u fi pc rh (-1000000003) else deedC r u fi pc rh (r (94 + 8 * c.toNatClampNeg + d.toNatClampNeg)) (upd r (94 + 8 * c.toNatClampNeg + d.toNatClampNeg) (nI 0))) else stayC r u fi pc rh (-1000000001)
def judgeC (r : Nat → Int32) (u fi pc : Nat) (rh : Nat → Nat → Int32) (c d g : Int32) := if isKn (r 0) c && isKn (r 0) d then (if inB g.toInt64 (-20) 20 then deedC r u fi pc rh (gapOf (upd r (94 + 8 * c.toNatClampNeg + d.toNatClampNeg) (g + nI 100)) (cq (upd r (94 + 8 * c.toNatClampNeg + d.toNatClampNeg) (g + nI 100))) c.toNatClampNeg d.toNatClampNeg) (upd r (94 + 8 * c.toNatClampNeg + d.toNatClampNeg) (g + nI 100)) else stayC r u fi pc rh (-1000000002)) else stayC r u fi pc rh (-1000000001)
theorem gap_in {g : Int32} (h : inB g.toInt64 (-20) 20 = true) : ∃ x, 80 ≤ x ∧ x ≤ 120 ∧ g + nI 100 = nI x ∧ gG (nI x) = g := by
  rw [inB_z, show (-20 : Int64).toInt = -20 from rfl, show (20 : Int64).toInt = 20 from rfl] at h
  simp only [Bool.and_eq_true, decide_eq_true_eq] at h
  have e : (g + nI 100).toInt = g.toInt + 100 := by
    rw [Int32.toInt_add, nI_toInt (by omega)]
    apply Int.bmod_eq_of_le <;> omega
  refine ⟨(g.toInt + 100).toNat, by omega, by omega, ?_, ?_⟩
  · apply Int32.toInt_inj.mp
    rw [e, nI_toInt (by omega)]; omega
  · unfold gG
    rw [if_neg (show ¬ nI (g.toInt + 100).toNat = 0 from nI_ne0 (by omega) (by omega))]
    apply Int32.toInt_inj.mp
    rw [Int32.toInt_sub, nI_toInt (by omega), nI_toInt (by omega), Int.bmod_eq_of_le (by omega) (by omega)]
    omega
theorem gap_rng {g : Int32} (h1 : ¬ g < (-20)) (h2 : g ≤ nI 20) : inB g.toInt64 (-20) 20 = true := by
  rw [inB_z, show (-20 : Int64).toInt = -20 from rfl, show (20 : Int64).toInt = 20 from rfl]
  rw [Int32.lt_iff_toInt_lt, show (-20 : Int32).toInt = -20 from rfl] at h1
  rw [Int32.le_iff_toInt_le, show (nI 20).toInt = 20 from rfl] at h2
  rw [decide_eq_true (by omega), decide_eq_true (by omega)]; rfl
theorem gap_lo {g : Int32} (h1 : g < (-20)) : inB g.toInt64 (-20) 20 = false := by
  rw [inB_z, show (-20 : Int64).toInt = -20 from rfl]
  rw [Int32.lt_iff_toInt_lt, show (-20 : Int32).toInt = -20 from rfl] at h1
  rw [decide_eq_false (by omega)]; rfl
theorem gap_hi {g : Int32} (h2 : ¬ g ≤ nI 20) : inB g.toInt64 (-20) 20 = false := in_hi (n := 20) rfl (by decide) h2
