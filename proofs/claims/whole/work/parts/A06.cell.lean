/-! a cell, as the class surveys it -/
def inC (r : Nat → Int32) (i j k : Nat) : Bool := isInB r (cq r) (k / 8) (k % 8) (nI i) (nI j)
def gN (r : Nat → Int32) (k : Nat) : Nat := (r (94 + k)).toNatClampNeg
def jdP (r : Nat → Int32) (i j k : Nat) : Bool := inC r i j k && !decide (r (94 + k) ≤ 0)
def tyP (r : Nat → Int32) (i j t k : Nat) : Bool := inC r i j k && decide (gN r k = 80 + t)
def tyA (r : Nat → Int32) (i j n : Nat) : Nat → Int32 := fun t => nI (cntB (tyP r i j t) n)
def rgP (r : Nat → Int32) (i j a b k : Nat) : Bool := inC r i j k && (decide (80 + a ≤ gN r k) && decide (gN r k < 80 + b))
def rgS (r : Nat → Int32) (i j a b : Nat) : Nat → Int32
  | 0 => nI 0
  | k + 1 => rgS r i j a b k + (if rgP r i j a b k then r (94 + k) - nI 100 else nI 0)
def siS (r : Nat → Int32) (i j : Nat) : Nat → Int32
  | 0 => nI 0
  | k + 1 => siS r i j k + (if inC r i j k then sight r (k / 8) (k % 8) else nI 0)
def mnN (t o : Nat) : Nat := if t + 2 * o < 40 then t + 2 * o else 40
def wnN (r : Nat → Int32) (i j o t : Nat) : Nat := cntB (rgP r i j t (mnN t o + 1)) 64
def wsI (r : Nat → Int32) (i j o t : Nat) : Int32 := rgS r i j t (mnN t o + 1) 64
def kpN (r : Nat → Int32) (i j o : Nat) : Nat → Nat
  | 0 => 0
  | t + 1 => if cntB (tyP r i j t) 64 = 0 then kpN r i j o t else if wnN r i j o t ≤ kpN r i j o t then kpN r i j o t else wnN r i j o t
def kSm (r : Nat → Int32) (i j o : Nat) : Nat → Int32
  | 0 => nI 0
  | t + 1 => if cntB (tyP r i j t) 64 = 0 then kSm r i j o t else if wnN r i j o t ≤ kpN r i j o t then kSm r i j o t else wsI r i j o t
def kLs (r : Nat → Int32) (i j o : Nat) : Nat → Int32
  | 0 => nI 0
  | t + 1 => if cntB (tyP r i j t) 64 = 0 then kLs r i j o t else if wnN r i j o t ≤ kpN r i j o t then kLs r i j o t else gv t
def prN (r : Nat → Int32) (i j : Nat) : Nat := cntB (inC r i j) 64
def jdN (r : Nat → Int32) (i j : Nat) : Nat := cntB (jdP r i j) 64
theorem gv_int : ∀ t, t ≤ 41 → (gv t).toInt = (t : Int) - 20 := by decide
theorem gv_ix : ∀ t, t ≤ 40 → gv t + nI 20 = nI t := by decide
theorem gv_100 : ∀ t, t ≤ 41 → gv t = nI (80 + t) - nI 100 := by decide
theorem gv_gt : ∀ t, t ≤ 41 → (nI 20 < gv t ↔ 40 < t) := by decide
theorem gv_lt {t u : Nat} (ht : t ≤ 41) (hu : u ≤ 41) : gv t < gv u ↔ t < u := by
  rw [Int32.lt_iff_toInt_lt, gv_int t ht, gv_int u hu]
  omega
theorem nI_small {n : Nat} (h : n < 2147483648) : (nI n).toInt = (n : Int) := nI_toInt h
theorem gv_min {t o : Nat} (ht : t ≤ 40) (ho : o ≤ 20) : (if gv t + nI (2 * o) < nI 20 then gv t + nI (2 * o) else nI 20) = gv (mnN t o) := by
  have e : (gv t + nI (2 * o)).toInt = (t : Int) - 20 + ((2 * o : Nat) : Int) := by
    rw [Int32.toInt_add, gv_int t (by omega), nI_toInt (by omega)]
    apply Int.bmod_eq_of_le <;> omega
  have m1 : mnN t o ≤ 40 := by unfold mnN; split <;> omega
  apply Int32.toInt_inj.mp
  rw [gv_int _ (by omega)]
  by_cases h : t + 2 * o < 40
  · rw [if_pos (by rw [Int32.lt_iff_toInt_lt, e, nI_toInt (by omega)]; omega), e]
    unfold mnN; rw [if_pos h]; omega
  · rw [if_neg (by rw [Int32.lt_iff_toInt_lt, e, nI_toInt (by omega)]; omega), nI_toInt (by omega)]
    unfold mnN; rw [if_neg h]; omega
theorem okG.at {r : Nat → Int32} (h : okG r) {k : Nat} (hk : k < 64) : r (94 + k) = nI (gN r k) ∧ (gN r k = 0 ∨ (80 ≤ gN r k ∧ gN r k ≤ 120)) := by
  obtain ⟨g, h1, h2⟩ := h k hk
  have : gN r k = g := by unfold gN; rw [h2, nI_cl (by omega)]
  rw [this]
  exact ⟨h2, h1⟩
theorem okG.jd {r : Nat → Int32} (h : okG r) {k : Nat} (hk : k < 64) : (r (94 + k) ≤ 0) ↔ gN r k = 0 := by
  obtain ⟨h1, h2⟩ := h.at hk
  rw [h1, Int32.le_iff_toInt_le, nI_toInt (by omega), show (0 : Int32).toInt = 0 from rfl]
  omega
theorem cnt_1 {p : Nat → Bool} {n : Nat} (h : p n = true) : cntB p (n + 1) = cntB p n + 1 := by
  show cntB p n + (if p n then 1 else 0) = _
  rw [if_pos h]
theorem cnt_0 {p : Nat → Bool} {n : Nat} (h : p n = false) : cntB p (n + 1) = cntB p n := by
  show cntB p n + (if p n then 1 else 0) = _
  rw [if_neg (by rw [h]; decide)]; rfl
theorem cnt_c {p q : Nat → Bool} : ∀ {n : Nat}, (∀ k, k < n → p k = q k) → cntB p n = cntB q n
  | 0, _ => rfl
  | n + 1, h => by unfold cntB; rw [cnt_c (n := n) (fun k hk => h k (by omega)), h n (by omega)]
theorem cnt_z {p : Nat → Bool} : ∀ {n : Nat}, cntB p n = 0 ↔ ∀ k, k < n → p k = false
  | 0 => ⟨fun _ k hk => absurd hk (by omega), fun _ => rfl⟩
  | n + 1 => by
    constructor
    · intro h k hk
      unfold cntB at h
      have h2 : cntB p n = 0 := by omega
      by_cases e : k = n
      · subst e
        cases hp : p k with
        | false => rfl
        | true => rw [hp] at h; simp at h
      · exact (cnt_z.mp h2) k (by omega)
    · intro h
      rw [cnt_0 (h n (by omega))]
      exact cnt_z.mpr (fun k hk => h k (by omega))
theorem inC_cd {r : Nat → Int32} {i j c d : Nat} (hd : d < 8) : inC r i j (8 * c + d) = isInB r (cq r) c d (nI i) (nI j) := by
  unfold inC
  rw [show (8 * c + d) / 8 = c by omega, show (8 * c + d) % 8 = d by omega]
theorem sy_0 {r : Nat → Int32} {i j k : Nat} (h : inC r i j k = false) : cntB (inC r i j) (k + 1) = cntB (inC r i j) k ∧ cntB (jdP r i j) (k + 1) = cntB (jdP r i j) k ∧ tyA r i j (k + 1) = tyA r i j k := by
  refine ⟨cnt_0 h, cnt_0 ?_, ?_⟩
  · unfold jdP; rw [h]; rfl
  · funext t
    unfold tyA
    rw [cnt_0]
    unfold tyP; rw [h]; rfl
theorem sy_1 {r : Nat → Int32} {i j k : Nat} (hg : okG r) (hk : k < 64) (h : inC r i j k = true) (hj : (!decide (r (94 + k) ≤ 0)) = false) : cntB (inC r i j) (k + 1) = cntB (inC r i j) k + 1 ∧ cntB (jdP r i j) (k + 1) = cntB (jdP r i j) k ∧ tyA r i j (k + 1) = tyA r i j k := by
  refine ⟨cnt_1 h, cnt_0 ?_, ?_⟩
  · unfold jdP; rw [h, hj]; rfl
  · have h0 : gN r k = 0 := (hg.jd hk).mp (by simpa using hj)
    funext t
    unfold tyA
    rw [cnt_0]
    unfold tyP; rw [h0, decide_eq_false (by omega), Bool.and_false]
theorem sy_2 {r : Nat → Int32} {i j k : Nat} (hg : okG r) (hk : k < 64) (h : inC r i j k = true) (hj : (!decide (r (94 + k) ≤ 0)) = true) : cntB (inC r i j) (k + 1) = cntB (inC r i j) k + 1 ∧ cntB (jdP r i j) (k + 1) = cntB (jdP r i j) k + 1 ∧ tyA r i j (k + 1) = upd (tyA r i j k) (gN r k - 80) (nI (cntB (tyP r i j (gN r k - 80)) k + 1)) := by
  have h0 : ¬ gN r k = 0 := fun e => by have := (hg.jd hk).mpr e; simp [this] at hj
  have h1 := (hg.at hk).2
  refine ⟨cnt_1 h, cnt_1 ?_, ?_⟩
  · unfold jdP; rw [h, hj]; rfl
  · funext t
    rw [upd_at]
    unfold tyA
    by_cases e : t = gN r k - 80
    · rw [if_pos e, ← e, cnt_1]
      unfold tyP; rw [h, decide_eq_true (by omega)]; rfl
    · rw [if_neg e, cnt_0]
      unfold tyP; rw [h, decide_eq_false (by omega)]; rfl
theorem ty_ix {r : Nat → Int32} {k : Nat} (hg : okG r) (hk : k < 64) (hj : (!decide (r (94 + k) ≤ 0)) = true) : gG (r (94 + k)) + nI 20 = nI (gN r k - 80) ∧ gN r k - 80 < 41 := by
  have h0 : ¬ gN r k = 0 := fun e => by have := (hg.jd hk).mpr e; simp [this] at hj
  obtain ⟨h1, h2⟩ := hg.at hk
  refine ⟨?_, by omega⟩
  unfold gG
  rw [h1, if_neg (show ¬ nI (gN r k) = 0 from nI_ne0 (by omega) (by omega))]
  apply Int32.toInt_inj.mp
  rw [Int32.toInt_add, Int32.toInt_sub, nI_toInt (by omega), nI_toInt (by omega), nI_toInt (by omega), nI_toInt (by omega)]
  rw [Int.bmod_eq_of_le (n := ((gN r k : Nat) : Int) - ((100 : Nat) : Int)) (by omega) (by omega)]
  rw [Int.bmod_eq_of_le (by omega) (by omega)]
  omega
theorem rg_0 {r : Nat → Int32} {i j t n : Nat} : cntB (rgP r i j t t) n = 0 := by
  refine cnt_z.mpr (fun k _ => ?_)
  unfold rgP
  by_cases h : 80 + t ≤ gN r k
  · rw [decide_eq_false (show ¬ gN r k < 80 + t by omega)]; simp
  · rw [decide_eq_false h]; simp
theorem rgS_0 {r : Nat → Int32} {i j t : Nat} : ∀ n, rgS r i j t t n = nI 0
  | 0 => rfl
  | n + 1 => by
    unfold rgS
    rw [rgS_0 n, if_neg]
    · rfl
    · unfold rgP
      by_cases h : 80 + t ≤ gN r n
      · rw [decide_eq_false (show ¬ gN r n < 80 + t by omega)]; simp
      · rw [decide_eq_false h]; simp
theorem rgP_s {r : Nat → Int32} {i j t u k : Nat} (h : t ≤ u) : (rgP r i j t (u + 1) k = true ∧ rgP r i j t u k = true ∧ tyP r i j u k = false) ∨ (rgP r i j t (u + 1) k = true ∧ rgP r i j t u k = false ∧ tyP r i j u k = true) ∨ (rgP r i j t (u + 1) k = false ∧ rgP r i j t u k = false ∧ tyP r i j u k = false) := by
  unfold rgP tyP
  cases inC r i j k with
  | false => right; right; exact ⟨rfl, rfl, rfl⟩
  | true =>
    simp only [Bool.true_and, Bool.and_eq_true, decide_eq_true_eq, Bool.and_eq_false_iff, decide_eq_false_iff_not]
    omega
theorem rg_s {r : Nat → Int32} {i j t u : Nat} (h : t ≤ u) : ∀ n, cntB (rgP r i j t u) n + cntB (tyP r i j u) n = cntB (rgP r i j t (u + 1)) n
  | 0 => rfl
  | n + 1 => by
    have ih := rg_s (r := r) (i := i) (j := j) h n
    rcases rgP_s (r := r) (i := i) (j := j) (k := n) h with ⟨a, b, c⟩ | ⟨a, b, c⟩ | ⟨a, b, c⟩
    · rw [cnt_1 a, cnt_1 b, cnt_0 c]; omega
    · rw [cnt_1 a, cnt_0 b, cnt_1 c]; omega
    · rw [cnt_0 a, cnt_0 b, cnt_0 c]; omega
theorem rgS_s {r : Nat → Int32} {i j t u : Nat} (hg : okG r) (hu : u ≤ 40) (h : t ≤ u) : ∀ n, n ≤ 64 → rgS r i j t u n + gv u * nI (cntB (tyP r i j u) n) = rgS r i j t (u + 1) n
  | 0, _ => by
    show nI 0 + gv u * nI 0 = nI 0
    rw [show nI 0 = (0 : Int32) from rfl, Int32.mul_zero, Int32.add_zero]
  | n + 1, hn => by
    have ih := rgS_s (r := r) (i := i) (j := j) hg hu h n (by omega)
    unfold rgS
    rcases rgP_s (r := r) (i := i) (j := j) (k := n) h with ⟨a, b, c⟩ | ⟨a, b, c⟩ | ⟨a, b, c⟩
    · rw [if_pos a, if_pos b, cnt_0 c, ← ih]; ac_rfl
    · rw [if_pos a, if_neg (by rw [b]; decide), cnt_1 c, ← ih]
      have e : r (94 + n) = nI (80 + u) := by
        rw [(hg.at (k := n) (by omega)).1]
        unfold tyP at c
        simp only [Bool.and_eq_true, decide_eq_true_eq] at c
        rw [c.2]
      rw [e, ← gv_100 u (by omega), ← nI_add, Int32.mul_add, show nI 0 = (0 : Int32) from rfl, show gv u * nI 1 = gv u from Int32.mul_one _, Int32.add_zero]
      ac_rfl
    · rw [if_neg (by rw [b]; decide), if_neg (by rw [a]; decide), cnt_0 c, ← ih]; ac_rfl
