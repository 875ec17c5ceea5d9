/-! floor division; what a cell's gap is -/
def fdI (x : Int32) (b : Nat) : Int32 := Int32.ofInt (x.toInt / (b : Int))
theorem xor_sign {x : Int32} {b : Nat} (hb : b < 2147483648) : 0 ≤ x ^^^ nI b ↔ 0 ≤ x.toInt := by
  rw [Int32.le_iff_toInt_le, show (0 : Int32).toInt = 0 from rfl]
  have e1 : (x ^^^ nI b).toInt = (x ^^^ nI b).toBitVec.toInt := rfl
  have e2 : x.toInt = x.toBitVec.toInt := rfl
  have e3 : (nI b).toBitVec.toInt = (b : Int) := nI_toInt hb
  have m1 := BitVec.msb_eq_toInt (x := (x ^^^ nI b).toBitVec)
  have m2 := BitVec.msb_eq_toInt (x := x.toBitVec)
  have m3 := BitVec.msb_eq_toInt (x := (nI b).toBitVec)
  rw [Int32.toBitVec_xor, BitVec.msb_xor, m2, m3, e3, decide_eq_false (show ¬ (b : Int) < 0 by omega), Bool.xor_false] at m1
  have m1 := decide_eq_decide.mp m1
  rw [← Int32.toBitVec_xor] at m1
  rw [e1, e2]
  omega
theorem i32_rng (x : Int32) : -2147483648 ≤ x.toInt ∧ x.toInt < 2147483648 := by
  have h1 := Int32.le_toInt x
  have h2 := Int32.toInt_lt x
  omega
theorem ediv_rng {x b : Int} (hx : -2147483648 ≤ x ∧ x < 2147483648) (hb : 1 ≤ b) : -2147483648 ≤ x / b ∧ x / b < 2147483648 := by
  constructor
  · apply Int.le_ediv_of_mul_le (by omega)
    have : -2147483648 * b ≤ -2147483648 * 1 := Int.mul_le_mul_of_nonpos_left (by omega) (by omega)
    omega
  · rcases Int.lt_or_le x 0 with h | h
    · have := Int.ediv_neg_of_neg_of_pos h (show (0 : Int) < b by omega)
      omega
    · have := Int.ediv_le_self b h
      omega
theorem fd_toInt {x : Int32} {b : Nat} (h1 : 1 ≤ b) : (fdI x b).toInt = x.toInt / (b : Int) := by
  have := ediv_rng (i32_rng x) (b := (b : Int)) (by omega)
  unfold fdI
  rw [Int32.toInt_ofInt, show Int32.size = 4294967296 from rfl]
  apply Int.bmod_eq_of_le <;> omega
theorem tdiv_toInt {x : Int32} {b : Nat} (h1 : 1 ≤ b) (hb : b < 2147483648) : (x / nI b).toInt = x.toInt / (b : Int) + (if 0 ≤ x.toInt ∨ (b : Int) ∣ x.toInt then 0 else 1) := by
  have hr := i32_rng x
  have := ediv_rng hr (b := (b : Int)) (by omega)
  rw [Int32.toInt_div, nI_toInt hb, Int.tdiv_eq_ediv, Int.sign_eq_one_of_pos (show (0 : Int) < (b : Int) by omega)]
  apply Int.bmod_eq_of_le
  · split <;> omega
  · split
    · omega
    · rename_i h
      have : x.toInt / (b : Int) < 0 := Int.ediv_neg_of_neg_of_pos (by omega) (by omega)
      omega
theorem fd_a {x : Int32} {b : Nat} (h1 : 1 ≤ b) (hb : b < 2147483648) (h : 0 ≤ x ^^^ nI b) : fdI x b = x / nI b := by
  apply Int32.toInt_inj.mp
  rw [fd_toInt h1, tdiv_toInt h1 hb, if_pos (Or.inl ((xor_sign hb).mp h))]
  omega
theorem fd_dvd {x : Int32} {b : Nat} (h1 : 1 ≤ b) (hb : b < 2147483648) : (x / nI b * nI b = x) ↔ (b : Int) ∣ x.toInt := by
  have hr := i32_rng x
  have e : (x / nI b * nI b).toInt = ((x / nI b).toInt * (b : Int)).bmod (2 ^ 32) := by rw [Int32.toInt_mul, nI_toInt hb]
  have hm := Int.mul_ediv_add_emod x.toInt (b : Int)
  have hm0 := Int.emod_nonneg x.toInt (show (b : Int) ≠ 0 by omega)
  have hm1 := Int.emod_lt_of_pos x.toInt (show (0 : Int) < (b : Int) by omega)
  rw [Int.mul_comm] at hm
  have hk : (b : Int) ∣ x.toInt ↔ x.toInt % (b : Int) = 0 := Int.dvd_iff_emod_eq_zero
  have key : (x / nI b * nI b).toInt = x.toInt / (b : Int) * (b : Int) + (if 0 ≤ x.toInt ∨ (b : Int) ∣ x.toInt then 0 else (b : Int)) := by
    rw [e, tdiv_toInt h1 hb]
    by_cases hc : 0 ≤ x.toInt ∨ (b : Int) ∣ x.toInt
    · rw [if_pos hc, if_pos hc, Int.add_zero, Int.add_zero]
      apply Int.bmod_eq_of_le <;> omega
    · rw [if_neg hc, if_neg hc, Int.add_mul, Int.one_mul]
      apply Int.bmod_eq_of_le <;> omega
  rw [← Int32.toInt_inj, key]
  by_cases hc : 0 ≤ x.toInt ∨ (b : Int) ∣ x.toInt
  · rw [if_pos hc, hk]; omega
  · rw [if_neg hc, hk]
    have : ¬ x.toInt % (b : Int) = 0 := fun q => hc (Or.inr (hk.mpr q))
    omega
theorem fd_b {x : Int32} {b : Nat} (h1 : 1 ≤ b) (hb : b < 2147483648) (h : x / nI b * nI b = x) : fdI x b = x / nI b := by
  apply Int32.toInt_inj.mp
  rw [fd_toInt h1, tdiv_toInt h1 hb, if_pos (Or.inr ((fd_dvd h1 hb).mp h))]
  omega
theorem fd_c {x : Int32} {b : Nat} (h1 : 1 ≤ b) (hb : b < 2147483648) (h0 : ¬ 0 ≤ x ^^^ nI b) (h : ¬ x / nI b * nI b = x) : fdI x b = x / nI b - nI 1 := by
  have hr := ediv_rng (i32_rng x) (b := (b : Int)) (by omega)
  have n0 : ¬ 0 ≤ x.toInt := fun q => h0 ((xor_sign hb).mpr q)
  have n1 : x.toInt / (b : Int) < 0 := Int.ediv_neg_of_neg_of_pos (by omega) (by omega)
  apply Int32.toInt_inj.mp
  rw [fd_toInt h1, Int32.toInt_sub, tdiv_toInt h1 hb, if_neg (by intro q; rcases q with q | q; exact n0 q; exact h ((fd_dvd h1 hb).mpr q)), nI_toInt (by omega)]
  rw [Int.bmod_eq_of_le (by omega) (by omega)]
  omega
section
variable {r : Nat → Int32} {i j o : Nat}
theorem bel_pt (hg : okG r) (ho : r 2 = nI o) (ho2 : o ≤ 20) : bel r (cq r) (nI i) (nI j) = ptN r i j o := by
  obtain ⟨e1, b1⟩ := belowOf_n r (cq r) (nI i) (nI j)
  obtain ⟨e2, b2⟩ := below_c hg (i := i) (j := j) ho ho2
  exact (nI_eq (by omega) (by omega)).mp (e1.symm.trans e2)
theorem ab_n (hw : okW r) (hg : okG r) (ho : r 2 = nI o) (ho2 : o ≤ 20) : smI r i j o + nI (100 * ptN r i j o) = nI (abo r (cq r) (nI i) (nI j)) := by
  rw [← (abo_n hw (cq r) (nI i) (nI j)).1, above_c hg ho ho2, pk_mul]
theorem ring2 (t a b p : Int32) : t * (a - b) + p = t * a + p - t * b := by grind
theorem gap_fd (hw : okW r) (hg : okG r) (ho : r 2 = nI o) (ho2 : o ≤ 20) (hp : 1 ≤ ptN r i j o) : cellGap r (cq r) (nI i) (nI j) - nI 100 = fdI (nI 2 * smI r i j o + nI (ptN r i j o)) (2 * ptN r i j o) := by
  obtain ⟨e1, b1⟩ := abo_n hw (cq r) (nI i) (nI j)
  obtain ⟨e2, b2⟩ := below_c hg (i := i) (j := j) ho ho2
  have e3 := ab_n hw hg (i := i) (j := j) ho ho2
  generalize abo r (cq r) (nI i) (nI j) = A at *
  generalize hP : ptN r i j o = P at *
  have es : smI r i j o = nI A - nI (100 * P) := by rw [← e3]; grind
  apply Int32.toInt_inj.mp
  have ex : (nI 2 * smI r i j o + nI P).toInt = 2 * ((A : Int) - 100 * (P : Int)) + (P : Int) := by
    have z1 : nI (2 * A) = nI 2 * nI A := (pk_mul 2 A).symm
    have z2 : nI (200 * P) = nI 2 * nI (100 * P) := by rw [pk_mul, show 200 * P = 2 * (100 * P) by omega]
    have z3 : nI 2 * (nI A - nI (100 * P)) + nI P = nI (2 * A + P) - nI (200 * P) := by
      rw [← nI_add, z1, z2]
      generalize nI A = a
      generalize nI (100 * P) = b
      generalize nI P = p
      generalize nI 2 = t
      exact ring2 t a b p
    rw [es, z3]
    rw [Int32.toInt_sub, nI_toInt (by omega), nI_toInt (by omega), Int.bmod_eq_of_le (by omega) (by omega)]
    omega
  rw [fd_toInt (by omega), ex]
  unfold cellGap
  rw [e1, e2, pk_mul, pk_mul, nI_add, pk_div (by omega) (by omega) (by omega), Int32.toInt_sub, nI_toInt (by
    have := Nat.div_le_self (2 * A + P) (2 * P); omega), nI_toInt (by omega)]
  have hd := Nat.div_le_self (2 * A + P) (2 * P)
  rw [show 2 * ((A : Int) - 100 * (P : Int)) + (P : Int) = ((2 * A + P : Nat) : Int) + (-100) * ((2 * P : Nat) : Int) by omega, Int.add_mul_ediv_right _ _ (by omega), ← Int.natCast_ediv]
  generalize (2 * A + P) / (2 * P) = D at *
  rw [Int.bmod_eq_of_le (by omega) (by omega)]
  omega
theorem si_1 {c d : Nat} (hd : d < 8) (h : inC r i j (8 * c + d) = true) : siS r i j (8 * c + d) + sight r c d = siS r i j (8 * c + (d + 1)) := by
  show _ = siS r i j (8 * c + d) + (if inC r i j (8 * c + d) then sight r ((8 * c + d) / 8) ((8 * c + d) % 8) else nI 0)
  rw [if_pos h, show (8 * c + d) / 8 = c by omega, show (8 * c + d) % 8 = d by omega]
theorem si_0 {c d : Nat} (h : inC r i j (8 * c + d) = false) : siS r i j (8 * c + d) = siS r i j (8 * c + (d + 1)) := by
  show _ = siS r i j (8 * c + d) + (if inC r i j (8 * c + d) then sight r ((8 * c + d) / 8) ((8 * c + d) % 8) else nI 0)
  rw [if_neg (by rw [h]; decide)]
  exact (Int32.add_zero _).symm
end
theorem cd_1 {a b h : Nat} (hb : 1 ≤ b) (h1 : h ≤ 1) (hno : ∀ e, h < e → e ≤ b → ¬ (a % e = 0 ∧ b % e = 0)) : Nat.gcd a b = 1 := by
  have g1 := Nat.gcd_pos_of_pos_right a (show 0 < b by omega)
  have g2 := Nat.le_of_dvd (by omega) (Nat.gcd_dvd_right a b)
  rcases Nat.lt_or_ge 1 (Nat.gcd a b) with q | q
  · exact absurd ⟨Nat.mod_eq_zero_of_dvd (Nat.gcd_dvd_left a b), Nat.mod_eq_zero_of_dvd (Nat.gcd_dvd_right a b)⟩ (hno _ (by omega) g2)
  · omega
theorem cd_2 {a b h : Nat} (hb : 1 ≤ b) (h1 : a % h = 0) (h2 : b % h = 0) (hno : ∀ e, h < e → e ≤ b → ¬ (a % e = 0 ∧ b % e = 0)) : Nat.gcd a b = h := by
  have g2 := Nat.le_of_dvd (by omega) (Nat.gcd_dvd_right a b)
  have g1 := Nat.gcd_pos_of_pos_right a (show 0 < b by omega)
  have g3 := Nat.le_of_dvd g1 (Nat.dvd_gcd (Nat.dvd_of_mod_eq_zero h1) (Nat.dvd_of_mod_eq_zero h2))
  rcases Nat.lt_or_ge h (Nat.gcd a b) with q | q
  · exact absurd ⟨Nat.mod_eq_zero_of_dvd (Nat.gcd_dvd_left a b), Nat.mod_eq_zero_of_dvd (Nat.gcd_dvd_right a b)⟩ (hno _ q g2)
  · omega
theorem cd_s {a b h : Nat} (hn : ¬ (a % (h + 1) = 0 ∧ b % (h + 1) = 0)) (hno : ∀ e, h + 1 < e → e ≤ b → ¬ (a % e = 0 ∧ b % e = 0)) : ∀ e, h < e → e ≤ b → ¬ (a % e = 0 ∧ b % e = 0) := by
  intro e h1 h2
  by_cases q : e = h + 1
  · rw [q]; exact hn
  · exact hno e (by omega) h2
/-- a pair in its own cell -/
theorem own_in {r : Nat → Int32} {c d i j : Nat} (hd : d < 8) (kc : kn (r 0) c = true) (kd : kn (r 0) d = true) (hi : cq r (8 + c) = nI i) (hj : cq r d = nI j) : inC r i j (8 * c + d) = true := by
  rw [inC_cd hd, ← hi, ← hj]
  exact isInB_self kc kd
theorem str_0 {r q : Nat → Int32} {c d : Nat} (h : (!decide (r (94 + 8 * c + d) ≤ 0)) = false) : strB r q c d = false := by
  unfold strB; rw [h]; rfl
theorem str_lo {r : Nat → Int32} (hg : okG r) {c d i j o : Nat} (ho : r 2 = nI o) (ho2 : o ≤ 20) (hc : c < 8) (hd : d < 8) (kc : kn (r 0) c = true) (kd : kn (r 0) d = true) (hi : cq r (8 + c) = nI i) (hj : cq r d = nI j) (h : (!decide (r (94 + 8 * c + d) ≤ 0)) = true) : strB r (cq r) c d = (decide (gG (r (94 + 8 * c + d)) < kLs r i j o 41) || decide (kLs r i j o 41 + nI (2 * o) < gG (r (94 + 8 * c + d)))) := by
  have hin := own_in hd kc kd hi hj
  have hjd : ¬ jdN r i j = 0 := by
    intro e
    have := (cnt_z.mp e) (8 * c + d) (by omega)
    unfold jdP at this
    rw [hin, ← Nat.add_assoc, h] at this
    cases this
  have hat := hg.at (k := 8 * c + d) (by omega)
  have hz : ¬ gN r (8 * c + d) = 0 := fun e => by
    have := (hg.jd (k := 8 * c + d) (by omega)).mpr e
    rw [← Nat.add_assoc] at this
    simp [this] at h
  rw [← Nat.add_assoc] at hat
  rcases window_c hg (i := i) (j := j) ho ho2 with ⟨q1, -⟩ | ⟨-, s, q2, q3, q4, -⟩
  · exact absurd q1 hjd
  · have h94 : r (94 + 8 * c + d) = nI (gN r (8 * c + d)) := hat.1
    have hb := hat.2
    unfold strB
    rw [h, hi, hj, q3, q4, ho, pk_mul, nI_add]
    generalize gN r (8 * c + d) = g at *
    rw [h94]
    rw [nI_l (by omega), nI_l (by omega), nI_l (by omega)]
    have e1 : inB (lN g) (lN (80 + s)) (lN (80 + s + 2 * o)) = (decide (80 + s ≤ g) && decide (g ≤ 80 + s + 2 * o)) := by
      rw [← nI_l (show g < 2147483648 by omega)]
      exact inB_n (by omega) (by omega) (by omega)
    rw [e1]
    have e2 : gG (nI g) = nI g - nI 100 := by unfold gG; rw [if_neg (show ¬ nI g = 0 from nI_ne0 (by omega) (by omega))]
    have e3 : (nI g - nI 100).toInt = (g : Int) - 100 := by
      rw [Int32.toInt_sub, nI_toInt (by omega), nI_toInt (by omega), Int.bmod_eq_of_le (by omega) (by omega)]
      omega
    have e4 : (gv s + nI (2 * o)).toInt = (s : Int) - 20 + 2 * (o : Int) := by
      rw [Int32.toInt_add, gv_int s (by omega), nI_toInt (by omega), Int.bmod_eq_of_le (by omega) (by omega)]
      omega
    have d1 : decide (gG (nI g) < gv s) = !decide (80 + s ≤ g) := by
      rw [← decide_not]
      apply decide_eq_decide.mpr
      rw [e2, Int32.lt_iff_toInt_lt, e3, gv_int s (by omega)]
      omega
    have d2 : decide (gv s + nI (2 * o) < gG (nI g)) = !decide (g ≤ 80 + s + 2 * o) := by
      rw [← decide_not]
      apply decide_eq_decide.mpr
      rw [e2, Int32.lt_iff_toInt_lt, e3, e4]
      omega
    rw [d1, d2]
    simp
theorem sm_1 {r : Nat → Int32} {c d : Nat} (hd : d < 8) (h : strB r (cq r) c d = true) : smTo r (cq r) (8 * c + d) + 1 = smTo r (cq r) (8 * c + (d + 1)) := by
  show _ = smTo r (cq r) (8 * c + d) + bI (!decide (r (94 + (8 * c + d)) ≤ 0) && strB r (cq r) ((8 * c + d) / 8) ((8 * c + d) % 8))
  rw [show (8 * c + d) / 8 = c by omega, show (8 * c + d) % 8 = d by omega, h, ← Nat.add_assoc]
  unfold strB at h
  rw [Bool.and_eq_true] at h
  rw [h.1]
  rfl
theorem sm_0 {r : Nat → Int32} {c d : Nat} (hd : d < 8) (h : strB r (cq r) c d = false) : smTo r (cq r) (8 * c + d) = smTo r (cq r) (8 * c + (d + 1)) := by
  show _ = smTo r (cq r) (8 * c + d) + bI (!decide (r (94 + (8 * c + d)) ≤ 0) && strB r (cq r) ((8 * c + d) / 8) ((8 * c + d) % 8))
  rw [show (8 * c + d) / 8 = c by omega, show (8 * c + d) % 8 = d by omega, h, Bool.and_false]
  exact (Int32.add_zero _).symm
theorem mi_0 {r : Nat → Int32} {c d : Nat} (h : (!decide (r (94 + 8 * c + d) ≤ 0)) = false) : miTo r (cq r) (8 * c + d) = miTo r (cq r) (8 * c + (d + 1)) := by
  show _ = if r (94 + (8 * c + d)) ≤ 0 then miTo r (cq r) (8 * c + d) else _
  rw [if_pos]
  rw [← Nat.add_assoc]
  simpa using h
theorem gG_pos {r : Nat → Int32} {k : Nat} (h : (!decide (r k ≤ 0)) = true) : gG (r k) = r k - nI 100 := by
  unfold gG
  rw [if_neg]
  intro e
  rw [e] at h
  exact absurd h (by decide)
theorem mi_1 {r : Nat → Int32} {c d : Nat} (hd : d < 8) (h : (!decide (r (94 + 8 * c + d) ≤ 0)) = true) : miTo r (cq r) (8 * c + d) + (if 0 ≤ gG (r (94 + 8 * c + d)) - (gapOf r (cq r) c d - nI 100) then gG (r (94 + 8 * c + d)) - (gapOf r (cq r) c d - nI 100) else 0 - (gG (r (94 + 8 * c + d)) - (gapOf r (cq r) c d - nI 100))) = miTo r (cq r) (8 * c + (d + 1)) := by
  show _ = if r (94 + (8 * c + d)) ≤ 0 then miTo r (cq r) (8 * c + d) else miTo r (cq r) (8 * c + d) + (if 0 ≤ r (94 + (8 * c + d)) - gapOf r (cq r) ((8 * c + d) / 8) ((8 * c + d) % 8) then r (94 + (8 * c + d)) - gapOf r (cq r) ((8 * c + d) / 8) ((8 * c + d) % 8) else -(r (94 + (8 * c + d)) - gapOf r (cq r) ((8 * c + d) / 8) ((8 * c + d) % 8)))
  rw [show (8 * c + d) / 8 = c by omega, show (8 * c + d) % 8 = d by omega, ← Nat.add_assoc, gG_pos h, if_neg (show ¬ r (94 + 8 * c + d) ≤ 0 by simpa using h), show r (94 + 8 * c + d) - nI 100 - (gapOf r (cq r) c d - nI 100) = r (94 + 8 * c + d) - gapOf r (cq r) c d by grind, Int32.zero_sub]
theorem gap_s {r q : Nat → Int32} {c d : Nat} (h : strB r q c d = true) : gapOf r q c d - nI 100 = gG (r (94 + 8 * c + d)) := by
  have h2 := h
  unfold strB at h2
  rw [Bool.and_eq_true] at h2
  unfold gapOf
  rw [if_pos h, gG_pos h2.1]
theorem gap_n {r q : Nat → Int32} {c d : Nat} {i j : Int32} (h : strB r q c d = false) (hi : q (8 + c) = i) (hj : q d = j) : gapOf r q c d - nI 100 = cellGap r q i j - nI 100 := by
  unfold gapOf
  rw [if_neg (by rw [h]; decide), hi, hj]
theorem pt_pos {r : Nat → Int32} (hg : okG r) {i j o k : Nat} (ho : r 2 = nI o) (ho2 : o ≤ 20) (hk : k < 64) (h : inC r i j k = true) : 1 ≤ ptN r i j o := by
  unfold ptN
  split
  · exact cntB_pos h hk
  · rename_i hj
    rcases Nat.eq_zero_or_pos (kpN r i j o 41) with q | q
    · exact absurd ((kp_jd hg).mp q) hj
    · exact q
