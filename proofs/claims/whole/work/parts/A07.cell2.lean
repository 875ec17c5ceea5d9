/-! what is surveyed of a cell is what the reference finds in it -/
theorem gN_in {r : Nat → Int32} (hg : okG r) {k a b : Nat} (hk : k < 64) (ha : 80 ≤ a) (hb : b < 2147483648) (hab : a < 2147483648) : (!decide (r (94 + k) ≤ 0) && inB (r (94 + k)).toInt64 (nI a).toInt64 (nI b).toInt64) = (decide (a ≤ gN r k) && decide (gN r k ≤ b)) := by
  obtain ⟨h1, h2⟩ := hg.at hk
  have e : inB (r (94 + k)).toInt64 (nI a).toInt64 (nI b).toInt64 = (decide (a ≤ gN r k) && decide (gN r k ≤ b)) := by
    rw [h1, nI_l hab, nI_l hb, inB_n (by omega) hab hb]
  rw [e]
  by_cases h : gN r k = 0
  · rw [decide_eq_true ((hg.jd hk).mpr h), decide_eq_false (show ¬ a ≤ gN r k by omega)]; rfl
  · rw [decide_eq_false (fun q => h ((hg.jd hk).mp q))]; simp
theorem win_rg {r : Nat → Int32} (hg : okG r) {i j o t k : Nat} (ho : r 2 = nI o) (ho2 : o ≤ 20) (ht : t ≤ 40) (hk : k < 64) : inWin r (cq r) (nI i) (nI j) (nI (80 + t)) (nI (80 + t) + nI 2 * r 2) k = rgP r i j t (mnN t o + 1) k := by
  unfold inWin rgP
  rw [ho, pk_mul, nI_add, gN_in hg hk (by omega) (by omega) (by omega)]
  have h2 := (hg.at hk).2
  have : decide (gN r k ≤ 80 + t + 2 * o) = decide (gN r k < 80 + (mnN t o + 1)) := by
    unfold mnN
    split <;> (apply decide_eq_decide.mpr; omega)
  rw [this]
  rfl
theorem win_ty {r : Nat → Int32} (hg : okG r) {i j t k : Nat} (ht : t ≤ 40) (hk : k < 64) : inWin r (cq r) (nI i) (nI j) (nI (80 + t)) (nI (80 + t)) k = tyP r i j t k := by
  unfold inWin tyP
  rw [gN_in hg hk (by omega) (by omega) (by omega)]
  have : (decide (80 + t ≤ gN r k) && decide (gN r k ≤ 80 + t)) = decide (gN r k = 80 + t) := by
    by_cases h : gN r k = 80 + t
    · rw [decide_eq_true h, decide_eq_true (by omega), decide_eq_true (by omega)]; rfl
    · rw [decide_eq_false h]
      by_cases h2 : 80 + t ≤ gN r k
      · rw [decide_eq_false (show ¬ gN r k ≤ 80 + t by omega)]; simp
      · rw [decide_eq_false h2]; rfl
  rw [this]
  rfl
theorem wN_wn {r : Nat → Int32} (hg : okG r) {i j o t : Nat} (ho : r 2 = nI o) (ho2 : o ≤ 20) (ht : t ≤ 40) : wN r (cq r) (nI i) (nI j) t = nI (wnN r i j o t) := by
  unfold wN wnN
  rw [winC_n, cnt_c (fun k hk => win_rg hg ho ho2 ht hk)]
theorem wBeg_ty {r : Nat → Int32} (hg : okG r) {i j t : Nat} (ht : t ≤ 40) : wBeg r (cq r) (nI i) (nI j) t = !decide (cntB (tyP r i j t) 64 = 0) := by
  unfold wBeg
  rw [winC_n, cnt_c (fun k hk => win_ty hg ht hk)]
  have hb := cntB_le (tyP r i j t) 64
  have : decide (nI (cntB (tyP r i j t) 64) ≤ 0) = decide (cntB (tyP r i j t) 64 = 0) := by
    apply decide_eq_decide.mpr
    rw [Int32.le_iff_toInt_le, nI_toInt (by omega), show (0 : Int32).toInt = 0 from rfl]
    omega
  rw [this]
theorem winS_rg {r : Nat → Int32} (hg : okG r) {i j o t : Nat} (ho : r 2 = nI o) (ho2 : o ≤ 20) (ht : t ≤ 40) : ∀ n, n ≤ 64 → winS r (cq r) (nI i) (nI j) (nI (80 + t)) (nI (80 + t) + nI 2 * r 2) n = rgS r i j t (mnN t o + 1) n + nI 100 * nI (cntB (rgP r i j t (mnN t o + 1)) n)
  | 0, _ => by
    show nI 0 = nI 0 + nI 100 * nI 0
    rfl
  | n + 1, hn => by
    have ih := winS_rg hg (i := i) (j := j) ho ho2 ht n (by omega)
    show winS r (cq r) (nI i) (nI j) (nI (80 + t)) (nI (80 + t) + nI 2 * r 2) n + (if inWin r (cq r) (nI i) (nI j) (nI (80 + t)) (nI (80 + t) + nI 2 * r 2) n then r (94 + n) else nI 0) = (rgS r i j t (mnN t o + 1) n + (if rgP r i j t (mnN t o + 1) n then r (94 + n) - nI 100 else nI 0)) + nI 100 * nI (cntB (rgP r i j t (mnN t o + 1)) (n + 1))
    rw [ih, win_rg hg ho ho2 ht (by omega)]
    cases h : rgP r i j t (mnN t o + 1) n with
    | true =>
      rw [if_pos rfl, if_pos rfl, cnt_1 h, ← nI_add, Int32.mul_add, show nI 100 * nI 1 = nI 100 from rfl]
      grind
    | false =>
      rw [if_neg (by decide), if_neg (by decide), cnt_0 h, show nI 0 = (0 : Int32) from rfl]
      grind
theorem abTo_si {r : Nat → Int32} {i j : Nat} : ∀ n, abTo r (cq r) (nI i) (nI j) n = siS r i j n + nI 100 * nI (cntB (inC r i j) n)
  | 0 => rfl
  | n + 1 => by
    have ih := abTo_si (r := r) (i := i) (j := j) n
    show abTo r (cq r) (nI i) (nI j) n + (if isInB r (cq r) (n / 8) (n % 8) (nI i) (nI j) then sight r (n / 8) (n % 8) + nI 100 else nI 0) = (siS r i j n + (if inC r i j n then sight r (n / 8) (n % 8) else nI 0)) + nI 100 * nI (cntB (inC r i j) (n + 1))
    rw [ih, show isInB r (cq r) (n / 8) (n % 8) (nI i) (nI j) = inC r i j n from rfl]
    cases h : inC r i j n with
    | true =>
      rw [if_pos rfl, if_pos rfl, cnt_1 h, ← nI_add, Int32.mul_add, show nI 100 * nI 1 = nI 100 from rfl]
      grind
    | false =>
      rw [if_neg (by decide), if_neg (by decide), cnt_0 h, show nI 0 = (0 : Int32) from rfl]
      grind
theorem nI_le_iff {a b : Nat} (ha : a < 2147483648) (hb : b < 2147483648) : nI a ≤ nI b ↔ a ≤ b := by
  rw [Int32.le_iff_toInt_le, nI_toInt ha, nI_toInt hb]
  omega
theorem wn_le {r : Nat → Int32} {i j o t : Nat} : wnN r i j o t ≤ 64 := cntB_le _ _
theorem wn_pos {r : Nat → Int32} {i j o t : Nat} (ht : t ≤ 40) (h : ¬ cntB (tyP r i j t) 64 = 0) : 1 ≤ wnN r i j o t := by
  unfold wnN
  rcases Nat.eq_zero_or_pos (cntB (rgP r i j t (mnN t o + 1)) 64) with q | q
  · exfalso
    apply h
    refine cnt_z.mpr (fun k hk => ?_)
    have := (cnt_z.mp q) k hk
    cases hy : tyP r i j t k with
    | false => rfl
    | true =>
      exfalso
      unfold tyP at hy
      simp only [Bool.and_eq_true, decide_eq_true_eq] at hy
      have hm : t ≤ mnN t o := by unfold mnN; split <;> omega
      unfold rgP at this
      rw [hy.1, hy.2, decide_eq_true (show 80 + t ≤ 80 + t from Nat.le_refl _), decide_eq_true (show 80 + t < 80 + (mnN t o + 1) by omega)] at this
      cases this
  · exact q
/-- what is kept -/
theorem kw {r : Nat → Int32} (hg : okG r) {i j o : Nat} (ho : r 2 = nI o) (ho2 : o ≤ 20) : ∀ t, t ≤ 41 → wMost r (cq r) (nI i) (nI j) t = nI (kpN r i j o t) ∧ kpN r i j o t ≤ 64 ∧
    ((kpN r i j o t = 0 ∧ wBest r (cq r) (nI i) (nI j) t = nI 0 ∧ kLs r i j o t = nI 0 ∧ kSm r i j o t = nI 0) ∨ (∃ s, s < t ∧ 1 ≤ kpN r i j o t ∧ wBest r (cq r) (nI i) (nI j) t = nI (80 + s) ∧ kLs r i j o t = gv s ∧ kSm r i j o t = wsI r i j o s ∧ kpN r i j o t = wnN r i j o s))
  | 0, _ => ⟨rfl, Nat.zero_le _, Or.inl ⟨rfl, rfl, rfl, rfl⟩⟩
  | t + 1, ht => by
    obtain ⟨h1, h2, h3⟩ := kw hg (i := i) (j := j) ho ho2 t (by omega)
    have eM : wMost r (cq r) (nI i) (nI j) (t + 1) = if wBeg r (cq r) (nI i) (nI j) t then (if wN r (cq r) (nI i) (nI j) t ≤ wMost r (cq r) (nI i) (nI j) t then wMost r (cq r) (nI i) (nI j) t else wN r (cq r) (nI i) (nI j) t) else wMost r (cq r) (nI i) (nI j) t := rfl
    have eB : wBest r (cq r) (nI i) (nI j) (t + 1) = if wBeg r (cq r) (nI i) (nI j) t then (if wN r (cq r) (nI i) (nI j) t ≤ wMost r (cq r) (nI i) (nI j) t then wBest r (cq r) (nI i) (nI j) t else nI (80 + t)) else wBest r (cq r) (nI i) (nI j) t := rfl
    have eK : kpN r i j o (t + 1) = if cntB (tyP r i j t) 64 = 0 then kpN r i j o t else if wnN r i j o t ≤ kpN r i j o t then kpN r i j o t else wnN r i j o t := rfl
    have eS : kSm r i j o (t + 1) = if cntB (tyP r i j t) 64 = 0 then kSm r i j o t else if wnN r i j o t ≤ kpN r i j o t then kSm r i j o t else wsI r i j o t := rfl
    have eL : kLs r i j o (t + 1) = if cntB (tyP r i j t) 64 = 0 then kLs r i j o t else if wnN r i j o t ≤ kpN r i j o t then kLs r i j o t else gv t := rfl
    rw [wBeg_ty hg (by omega), wN_wn hg ho ho2 (by omega), h1] at eM eB
    by_cases hc : cntB (tyP r i j t) 64 = 0
    · rw [if_pos hc] at eK eS eL
      rw [decide_eq_true hc, if_neg (by decide)] at eM eB
      rw [eM, eB, eK, eS, eL]
      refine ⟨rfl, h2, ?_⟩
      rcases h3 with q | ⟨s, q1, q2⟩
      · exact Or.inl q
      · exact Or.inr ⟨s, by omega, q2⟩
    · rw [if_neg hc] at eK eS eL
      rw [decide_eq_false hc, if_pos (by decide)] at eM eB
      have hw := wn_le (r := r) (i := i) (j := j) (o := o) (t := t)
      have hp := wn_pos (o := o) (by omega) hc
      by_cases hn : wnN r i j o t ≤ kpN r i j o t
      · rw [if_pos hn] at eK eS eL
        rw [if_pos ((nI_le_iff (by omega) (by omega)).mpr hn)] at eM eB
        rw [eM, eB, eK, eS, eL]
        refine ⟨rfl, h2, ?_⟩
        rcases h3 with q | ⟨s, q1, q2⟩
        · omega
        · exact Or.inr ⟨s, by omega, q2⟩
      · rw [if_neg hn] at eK eS eL
        rw [if_neg (fun q => hn ((nI_le_iff (by omega) (by omega)).mp q))] at eM eB
        rw [eM, eB, eK, eS, eL]
        exact ⟨rfl, hw, Or.inr ⟨t, by omega, hp, rfl, rfl, rfl, rfl⟩⟩
theorem kp_mono {r : Nat → Int32} {i j o t : Nat} : kpN r i j o t ≤ kpN r i j o (t + 1) := by
  show _ ≤ if cntB (tyP r i j t) 64 = 0 then kpN r i j o t else if wnN r i j o t ≤ kpN r i j o t then kpN r i j o t else wnN r i j o t
  split
  · exact Nat.le_refl _
  · split <;> omega
theorem kp_mono2 {r : Nat → Int32} {i j o t : Nat} : ∀ u, kpN r i j o t ≤ kpN r i j o (t + u)
  | 0 => Nat.le_refl _
  | u + 1 => Nat.le_trans (kp_mono2 u) kp_mono
theorem kp_jd {r : Nat → Int32} (hg : okG r) {i j o : Nat} : kpN r i j o 41 = 0 ↔ jdN r i j = 0 := by
  constructor
  · intro h
    refine cnt_z.mpr (fun k hk => ?_)
    cases hy : jdP r i j k with
    | false => rfl
    | true =>
      exfalso
      unfold jdP at hy
      simp only [Bool.and_eq_true] at hy
      have h2 := (hg.at hk).2
      have h3 : ¬ gN r k = 0 := fun e => by have := (hg.jd hk).mpr e; simp [this] at hy
      have ht : tyP r i j (gN r k - 80) k = true := by unfold tyP; rw [hy.1, decide_eq_true (by omega)]; rfl
      have hc : ¬ cntB (tyP r i j (gN r k - 80)) 64 = 0 := fun q => by have := (cnt_z.mp q) k hk; rw [ht] at this; cases this
      have hp := wn_pos (o := o) (t := gN r k - 80) (by omega) hc
      have : 1 ≤ kpN r i j o (gN r k - 80 + 1) := by
        show 1 ≤ if cntB (tyP r i j (gN r k - 80)) 64 = 0 then kpN r i j o (gN r k - 80) else if wnN r i j o (gN r k - 80) ≤ kpN r i j o (gN r k - 80) then kpN r i j o (gN r k - 80) else wnN r i j o (gN r k - 80)
        rw [if_neg hc]
        split <;> omega
      have := kp_mono2 (r := r) (i := i) (j := j) (o := o) (t := gN r k - 80 + 1) (41 - (gN r k - 80 + 1))
      rw [show gN r k - 80 + 1 + (41 - (gN r k - 80 + 1)) = 41 by omega] at this
      omega
  · intro h
    have hz := cnt_z.mp h
    have : ∀ t, kpN r i j o t = 0 := by
      intro t
      induction t with
      | zero => rfl
      | succ t ih =>
        show (if cntB (tyP r i j t) 64 = 0 then kpN r i j o t else if wnN r i j o t ≤ kpN r i j o t then kpN r i j o t else wnN r i j o t) = 0
        rw [if_pos]
        · exact ih
        · refine cnt_z.mpr (fun k hk => ?_)
          have hk2 := hz k hk
          unfold jdP at hk2
          unfold tyP
          cases hin : inC r i j k with
          | false => rfl
          | true =>
            rw [hin] at hk2
            have h0 : gN r k = 0 := (hg.jd hk).mp (by simpa using hk2)
            rw [h0, decide_eq_false (by omega)]; rfl
    exact this 41
/-- how many gaps the mean is made of; their sum -/
def ptN (r : Nat → Int32) (i j o : Nat) : Nat := if jdN r i j = 0 then prN r i j else kpN r i j o 41
def smI (r : Nat → Int32) (i j o : Nat) : Int32 := if jdN r i j = 0 then siS r i j 64 else kSm r i j o 41
theorem window_c {r : Nat → Int32} (hg : okG r) {i j o : Nat} (ho : r 2 = nI o) (ho2 : o ≤ 20) : (jdN r i j = 0 ∧ windowOf r (cq r) (nI i) (nI j) = nI 0 ∧ kLs r i j o 41 = nI 0) ∨ (¬ jdN r i j = 0 ∧ ∃ s, s ≤ 40 ∧ windowOf r (cq r) (nI i) (nI j) = nI (80 + s) ∧ kLs r i j o 41 = gv s ∧ kSm r i j o 41 = wsI r i j o s ∧ kpN r i j o 41 = wnN r i j o s ∧ 1 ≤ wnN r i j o s) := by
  obtain ⟨h1, h2, h3⟩ := kw hg (i := i) (j := j) ho ho2 41 (by omega)
  rcases h3 with ⟨q1, q2, q3, q4⟩ | ⟨s, q1, q2, q3, q4, q5, q6⟩
  · exact Or.inl ⟨(kp_jd hg).mp q1, q2, q3⟩
  · exact Or.inr ⟨fun e => by have := (kp_jd (o := o) hg).mpr e; omega, s, by omega, q3, q4, q5, q6, by omega⟩
theorem kept_c {r : Nat → Int32} (hg : okG r) {i j o : Nat} (ho : r 2 = nI o) (ho2 : o ≤ 20) : keptOf r (cq r) (nI i) (nI j) = nI (kpN r i j o 41) := by
  unfold keptOf
  rcases window_c hg (i := i) (j := j) ho ho2 with ⟨q1, q2, q3⟩ | ⟨q1, s, q2, q3, q4, q5, q6, q7⟩
  · rw [winC_n, (kp_jd hg).mpr q1]
    congr 1
    refine cnt_z.mpr (fun k hk => ?_)
    have := (cnt_z.mp q1) k hk
    unfold jdP at this
    unfold inWin
    rw [show isInB r (cq r) (k / 8) (k % 8) (nI i) (nI j) = inC r i j k from rfl, ← Bool.and_assoc, this]
    rfl
  · rw [q3, q6]
    exact wN_wn hg ho ho2 q2
theorem below_c {r : Nat → Int32} (hg : okG r) {i j o : Nat} (ho : r 2 = nI o) (ho2 : o ≤ 20) : belowOf r (cq r) (nI i) (nI j) = nI (ptN r i j o) ∧ ptN r i j o ≤ 64 := by
  have hk := (kw hg (i := i) (j := j) ho ho2 41 (by omega)).2.1
  have hp := cntB_le (inC r i j) 64
  unfold belowOf ptN
  rw [kept_c hg ho ho2, prC_n]
  by_cases h : jdN r i j = 0
  · rw [if_pos h, (kp_jd hg).mpr h, if_pos (by decide)]
    exact ⟨rfl, hp⟩
  · have : ¬ kpN r i j o 41 = 0 := fun e => h ((kp_jd hg).mp e)
    rw [if_neg h, if_neg (nI_nle (by omega) (by omega))]
    exact ⟨rfl, hk⟩
theorem above_c {r : Nat → Int32} (hg : okG r) {i j o : Nat} (ho : r 2 = nI o) (ho2 : o ≤ 20) : aboveOf r (cq r) (nI i) (nI j) = smI r i j o + nI 100 * nI (ptN r i j o) := by
  unfold aboveOf ptN smI
  rcases window_c hg (i := i) (j := j) ho ho2 with ⟨q1, q2, q3⟩ | ⟨q1, s, q2, q3, q4, q5, q6, q7⟩
  · rw [if_pos q1, if_pos q1, q2, if_pos (by decide)]
    exact abTo_si 64
  · rw [if_neg q1, if_neg q1, q3, if_neg (nI_nle (by omega) (by omega)), q5, q6]
    exact winS_rg hg ho ho2 q2 64 (Nat.le_refl _)
