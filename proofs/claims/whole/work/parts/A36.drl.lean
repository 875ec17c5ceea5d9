/-! drawing and drifting, as the class does it -/
theorem draw_c {s : Nat} : (nI s * (1103515245) + nI 12345) &&& (2147483647) = nI (nxN s) := by
  rw [show (1103515245 : Int32) = nI 1103515245 from rfl, pk_mul, nI_add]
  apply Int32.toBitVec_inj.mp
  apply BitVec.eq_of_toNat_eq
  rw [Int32.toBitVec_and, BitVec.toNat_and]
  have e1 : ∀ n, (nI n).toBitVec.toNat = n % 4294967296 := fun n => by
    show (BitVec.ofNat 32 n).toNat = _
    rw [BitVec.toNat_ofNat]
  have e2 : (2147483647 : Int32).toBitVec.toNat = 2 ^ 31 - 1 := by decide
  rw [e1, e1, e2, Nat.and_two_pow_sub_one_eq_mod]
  unfold nxN
  generalize s * 1103515245 + 12345 = N
  rw [show (2 : Nat) ^ 31 = 2147483648 from rfl]
  have h1 : N % 4294967296 % 2147483648 = N % 2147483648 := Nat.mod_mod_of_dvd N (by decide)
  rw [h1, Nat.mod_eq_of_lt (show N % 2147483648 < 4294967296 by omega)]
/-- figures drawn, one behind the other -/
def edF (nx : Nat → Nat) (rn : Nat → Nat → Nat) (s : Nat) : Nat → Nat
  | 0 => 0
  | h + 1 => 10 * edF nx rn s h + rn (nxIt nx (h + 1) s) 5
theorem edF_b {nx : Nat → Nat} {rn : Nat → Nat → Nat} (hrn : ∀ s n, 0 < n → rn s n < n) (s : Nat) : ∀ h, edF nx rn s h < 10 ^ h
  | 0 => by show 0 < 1; omega
  | h + 1 => by
    have ih := edF_b (nx := nx) hrn s h
    have := hrn (nxIt nx (h + 1) s) 5 (by omega)
    show 10 * edF nx rn s h + rn (nxIt nx (h + 1) s) 5 < 10 ^ (h + 1)
    rw [Nat.pow_succ]; omega
theorem edF_5 {nx : Nat → Nat} {rn : Nat → Nat → Nat} (hrn : ∀ s n, 0 < n → rn s n < n) (s : Nat) {h : Nat} (hh : h ≤ 5) : edF nx rn s h ≤ 99999 := by
  have := edF_b hrn (nx := nx) s h
  have h2 : 10 ^ h ≤ 10 ^ 5 := Nat.pow_le_pow_right (by omega) hh
  omega
def chC (nx : Nat → Nat) (rn : Nat → Nat → Nat) (r : Nat → Int32) (s : Nat) : (Nat → Int32) × Nat :=
  if kn (r 0) (rn (nx s) 8) then (if kn (r 0) (rn (nx (nx s)) 8) then (upd r (94 + 8 * rn (nx s) 8 + rn (nx (nx s)) 8) (nI (rn (nx (nx (nx s))) 9) - nI 4 + nI 100), nx (nx (nx s))) else (r, nx (nx (nx s))))
  else (rKnow r (rn (nx s) 8) (dgt (edF nx rn (nx s) 5)) (dgt (edF nx rn (nxIt nx 5 (nx s)) 5)) (rn (nx (nxIt nx 5 (nxIt nx 5 (nx s)))) 9 + 1), nx (nxIt nx 5 (nxIt nx 5 (nx s))))
theorem gG_4 {x : Nat} (h : x < 9) : gG (nI x - nI 4 + nI 100) = nI x - nI 4 := by
  have : ∀ x, x < 9 → gG (nI x - nI 4 + nI 100) = nI x - nI 4 := by decide
  exact this x h
theorem memR_b {fi pc f2 c2 : Nat} {rh rh2 : Nat → Nat → Int32} {r : Nat → Int32} (h : (f2, c2, rh2) = memR fi pc rh r) (hf : fi < 16) (hp : pc ≤ 16) : f2 < 16 ∧ c2 ≤ 16 := by
  unfold memR at h
  by_cases q : 16 ≤ pc
  · rw [if_pos q] at h; cases h; omega
  · rw [if_neg q] at h; cases h; omega
def dC (nx : Nat → Nat) (rn : Nat → Nat → Nat) (r : Nat → Int32) (s : Nat) : Nat → (Nat → Int32) × Nat
  | 0 => (r, s)
  | i + 1 => chC nx rn (dC nx rn r s i).1 (dC nx rn r s i).2
def mC (nx : Nat → Nat) (rn : Nat → Nat → Nat) (fi pc : Nat) (rh : Nat → Nat → Int32) (r : Nat → Int32) (s : Nat) : Nat → Nat × Nat × (Nat → Nat → Int32)
  | 0 => (fi, pc, rh)
  | i + 1 => memR (mC nx rn fi pc rh r s i).1 (mC nx rn fi pc rh r s i).2.1 (mC nx rn fi pc rh r s i).2.2 (dC nx rn r s i).1
def driftC (nx : Nat → Nat) (rn : Nat → Nat → Nat) (r : Nat → Int32) (fi pc : Nat) (rh : Nat → Nat → Int32) (s : Nat) (n : Int32) : Int32 × (Nat → Int32) × Nat × Nat × Nat × (Nat → Nat → Int32) := if inB n.toInt64 1 12 then ((dC nx rn r s n.toNatClampNeg).1 0, (dC nx rn r s n.toNatClampNeg).1, (dC nx rn r s n.toNatClampNeg).2, mC nx rn fi pc rh r s n.toNatClampNeg) else ((-1000000002), r, s, fi, pc, rh)
theorem in112 {n : Nat} (h1 : 1 ≤ n) (h : n ≤ 12) : inB (nI n).toInt64 1 12 = true := by
  have := inB_n (a := n) (lo := 1) (hi := 12) (by omega) (by omega) (by omega)
  rw [show (1 : Int64) = lN 1 from rfl, show (12 : Int64) = lN 12 from rfl, this, decide_eq_true h1, decide_eq_true h]; rfl
/-- ahead of step i -/
def drP (nx : Nat → Nat) (rn : Nat → Nat → Nat) (r : Nat → Int32) (fi pc : Nat) (rh : Nat → Nat → Int32) (s u i f1 c1 : Nat) (rh1 : Nat → Nat → Int32) (r1 : Nat → Int32) (u1 s1 : Nat) : Prop :=
  (f1, c1, rh1) = mC nx rn fi pc rh r s i ∧ (r1, s1) = dC nx rn r s i ∧ u ≤ u1 ∧ u1 ≤ u + i ∧ (u1 = u → r1 = r) ∧ f1 < 16 ∧ c1 ≤ 16 ∧ s1 < 2147483648
theorem drP_0 {nx : Nat → Nat} {rn : Nat → Nat → Nat} {r : Nat → Int32} {fi pc s u : Nat} {rh : Nat → Nat → Int32} (hf : fi < 16) (hp : pc ≤ 16) (hs : s < 2147483648) : drP nx rn r fi pc rh s u 0 fi pc rh r u s := ⟨rfl, rfl, Nat.le_refl _, Nat.le_refl _, fun _ => rfl, hf, hp, hs⟩
theorem drP.step {nx : Nat → Nat} {rn : Nat → Nat → Nat} {r r1 r2 : Nat → Int32} {fi pc s u i f1 c1 u1 s1 f2 c2 u2 s2 : Nat} {rh rh1 rh2 : Nat → Nat → Int32} (hnx : ∀ s, nx s < 2147483648) (h : drP nx rn r fi pc rh s u i f1 c1 rh1 r1 u1 s1) (hm : (f2, c2, rh2) = memR f1 c1 rh1 r1) (hc : (r2, s2) = chC nx rn r1 s1) (hu : (u2 = u1 ∧ r2 = r1) ∨ u2 = u1 + 1) : drP nx rn r fi pc rh s u (i + 1) f2 c2 rh2 r2 u2 s2 := by
  obtain ⟨a1, a2, a3, a4, a5, a6, a7, a8⟩ := h
  obtain ⟨b1, b2⟩ := memR_b hm a6 a7
  refine ⟨?_, ?_, by omega, by omega, fun e => ?_, b1, b2, ?_⟩
  · show _ = memR _ _ _ _
    rw [← a1, ← a2]; exact hm
  · show _ = chC _ _ _ _
    rw [← a2]; exact hc
  · rcases hu with q | q
    · rw [q.2]; exact a5 (by omega)
    · omega
  · have : s2 = (chC nx rn r1 s1).2 := by rw [← hc]
    rw [this]
    unfold chC
    split
    · split <;> exact hnx _
    · exact hnx _
