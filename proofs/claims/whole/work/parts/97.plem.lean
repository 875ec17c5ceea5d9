/-! placing letters: what the class's sets say -/
theorem likTo_set {r : Nat → Int32} {kk : Int32} {c side : Nat} : ∀ n, likTo r kk c side n = bset (fun d => kn kk d && !decide (r 1 < farOf r c d side)) n
  | 0 => rfl
  | n + 1 => by
    unfold likTo bset
    rw [likTo_set n]
    by_cases h1 : kn kk n = true
    · rw [if_pos h1, h1]
      by_cases h2 : r 1 < farOf r c n side
      · rw [if_pos h2, decide_eq_true h2]; rfl
      · rw [if_neg h2, decide_eq_false h2]; rfl
    · rw [if_neg h1]
      simp at h1
      rw [h1]; rfl
def memF (kn : Nat → Bool) (p : Nat → Nat) (c k : Nat) : Nat → Bool := fun d => decide (d < c) && (kn d && decide (p d = k))
theorem fitN_iff {kn cmp : Nat → Bool} {p : Nat → Nat} {k : Nat} : ∀ {c : Nat}, fitN kn cmp p k c = true ↔ ∀ d, d < c → kn d = true → p d = k → cmp d = true
  | 0 => by
    constructor
    · intro _ d hd; exact absurd hd (by omega)
    · intro _; rfl
  | c + 1 => by
    unfold fitN
    rw [Bool.and_eq_true, fitN_iff (c := c)]
    constructor
    · intro ⟨h1, h2⟩ d hd hk hp
      by_cases e : d = c
      · subst e
        rw [hk, decide_eq_true hp] at h2
        simpa using h2
      · exact h1 d (by omega) hk hp
    · intro h
      refine ⟨fun d hd hk hp => h d (by omega) hk hp, ?_⟩
      by_cases hk : kn c = true
      · by_cases hp : p c = k
        · rw [h c (by omega) hk hp]; simp
        · rw [decide_eq_false hp]; simp
      · simp at hk; rw [hk]; rfl
theorem fit_sub {kn cmp : Nat → Bool} {p : Nat → Nat} {k c : Nat} (hc : c ≤ 8) : (bset (memF kn p c k) 8 &&& (bset (fun d => kn d && cmp d) 8 ^^^ (-1)) = 0) ↔ fitN kn cmp p k c = true := by
  rw [bset_sub, fitN_iff]
  constructor
  · intro h d hd hk hp
    have := h d (by omega) (by unfold memF; rw [decide_eq_true hd, hk, decide_eq_true hp]; rfl)
    rw [hk] at this
    simpa using this
  · intro h i hi hm
    unfold memF at hm
    simp only [Bool.and_eq_true, decide_eq_true_eq] at hm
    show (kn i && cmp i) = true
    rw [hm.2.1, h i hm.1 hm.2.1 hm.2.2]
    rfl
theorem mem_add {kn : Nat → Bool} {ps : List Nat} {k j : Nat} (hc : ps.length < 8) (hk : kn ps.length = true) : bset (memF kn (pat (k :: ps)) (ps.length + 1) j) 8 = if j = k then bset (memF kn (pat ps) ps.length j) 8 ||| bt ps.length else bset (memF kn (pat ps) ps.length j) 8 := by
  have low : ∀ i, i < ps.length → memF kn (pat (k :: ps)) (ps.length + 1) j i = memF kn (pat ps) ps.length j i := by
    intro i hi
    unfold memF
    rw [pat_low hi, decide_eq_true hi, decide_eq_true (show i < ps.length + 1 by omega)]
  have hi : ∀ i, ps.length < i → memF kn (pat (k :: ps)) (ps.length + 1) j i = memF kn (pat ps) ps.length j i := by
    intro i hi
    unfold memF
    rw [decide_eq_false (show ¬ i < ps.length + 1 by omega), decide_eq_false (show ¬ i < ps.length by omega)]
    rfl
  by_cases h : j = k
  · rw [if_pos h, bset_add hc]
    refine bset_c (fun i _ => ?_)
    rcases Nat.lt_trichotomy i ps.length with q | q | q
    · rw [low i q, decide_eq_false (show ¬ i = ps.length by omega), Bool.or_false]
    · subst q
      unfold memF
      rw [pat_top, hk, decide_eq_true h.symm, decide_eq_true (show ps.length < ps.length + 1 by omega), decide_eq_true (rfl : ps.length = ps.length)]
      simp
    · rw [hi i q, decide_eq_false (show ¬ i = ps.length by omega), Bool.or_false]
  · rw [if_neg h]
    refine bset_c (fun i _ => ?_)
    rcases Nat.lt_trichotomy i ps.length with q | q | q
    · exact low i q
    · subst q
      unfold memF
      rw [pat_top, decide_eq_false (show ¬ k = j from fun e => h e.symm), decide_eq_false (show ¬ ps.length < ps.length by omega)]
      simp
    · exact hi i q
theorem mem_del {kn : Nat → Bool} {ps : List Nat} {k : Nat} (hc : ps.length < 8) : (bset (memF kn (pat ps) ps.length k) 8 ||| bt ps.length) &&& (bt ps.length ^^^ (-1)) = bset (memF kn (pat ps) ps.length k) 8 := by
  rw [bset_add hc, bset_del hc]
  refine bset_c (fun i _ => ?_)
  by_cases h : i = ps.length
  · subst h
    unfold memF
    rw [decide_eq_false (show ¬ ps.length < ps.length by omega)]
    simp
  · rw [decide_eq_false h]; simp
theorem mem_skip {kn : Nat → Bool} {ps : List Nat} {k j : Nat} (hk : kn ps.length = false) : bset (memF kn (pat (k :: ps)) (ps.length + 1) j) 8 = bset (memF kn (pat ps) ps.length j) 8 := by
  refine bset_c (fun i _ => ?_)
  rcases Nat.lt_trichotomy i ps.length with q | q | q
  · unfold memF
    rw [pat_low q, decide_eq_true q, decide_eq_true (show i < ps.length + 1 by omega)]
  · subst q
    unfold memF
    rw [hk, decide_eq_false (show ¬ ps.length < ps.length by omega)]
    simp
  · unfold memF
    rw [decide_eq_false (show ¬ i < ps.length + 1 by omega), decide_eq_false (show ¬ i < ps.length by omega)]
    rfl
theorem tl_no {α : Type} {g : Nat → Option α} {ok : Nat → Bool} {k : Nat} (hk : k < 9) (h : ok k = false) : tryF g ok (9 - k) k = tryF g ok (9 - (k + 1)) (k + 1) := by
  rw [show 9 - k = (9 - (k + 1)) + 1 by omega, tryF_s, if_neg (by rw [h]; decide)]
theorem tl_none {α : Type} {g : Nat → Option α} {ok : Nat → Bool} {k : Nat} (hk : k < 9) (h : ok k = true) (hg : g k = none) : tryF g ok (9 - k) k = tryF g ok (9 - (k + 1)) (k + 1) := by
  rw [show 9 - k = (9 - (k + 1)) + 1 by omega, tryF_s, if_pos h, hg]
theorem tl_some {α : Type} {g : Nat → Option α} {ok : Nat → Bool} {k : Nat} {r : α} (hk : k < 9) (h : ok k = true) (hg : g k = some r) : tryF g ok (9 - k) k = some r := by
  rw [show 9 - k = (9 - (k + 1)) + 1 by omega, tryF_s, if_pos h, hg]
theorem tl_end {α : Type} {g : Nat → Option α} {ok : Nat → Bool} {m k : Nat} (h : ∀ j, k ≤ j → ok j = false) : tryF g ok m k = none := tryF_none (fnd_none m k h)
theorem tl_last {α : Type} {g : Nat → Option α} {ok : Nat → Bool} {k : Nat} (hk : k < 9) (h : ok k = true) (hn : ∀ j, k < j → ok j = false) : tryF g ok (9 - k) k = g k := by
  cases hg : g k with
  | some r => exact tl_some hk h hg
  | none => rw [tl_none hk h hg]; exact tl_end (fun j hj => hn j (by omega))
