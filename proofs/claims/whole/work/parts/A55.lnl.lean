/-! lines: how wide a cell's gap can be, strange pairs counted, signs -/
theorem gv_b : ∀ t, t ≤ 40 → gv t + nI 100 = nI (80 + t) := by decide
theorem siAt_b {w : Nat → Int32} {c d : Nat} : ∀ n t, n + t ≤ 40 → ∃ g, 80 ≤ g ∧ g ≤ 120 ∧ siAt w c d n t + nI 100 = nI g
  | 0, t, h => ⟨80 + t, by omega, by omega, gv_b t (by omega)⟩
  | n + 1, t, h => by
    unfold siAt
    split
    · exact ⟨80 + t, by omega, by omega, gv_b t (by omega)⟩
    · exact siAt_b n (t + 1) (by omega)
theorem cntB_s1 {p : Nat → Bool} {k : Nat} (h : p k = true) : cntB p (k + 1) = cntB p k + 1 := by
  show cntB p k + (if p k then 1 else 0) = _
  rw [h]; rfl
theorem cntB_s0 {p : Nat → Bool} {k : Nat} (h : p k = false) : cntB p (k + 1) = cntB p k := by
  show cntB p k + (if p k then 1 else 0) = _
  rw [h]; rfl
theorem abTo_b (w q : Nat → Int32) (i j : Int32) : ∀ k, ∃ s, 80 * cntB (fun k => isInB w q (k / 8) (k % 8) i j) k ≤ s ∧ s ≤ 120 * cntB (fun k => isInB w q (k / 8) (k % 8) i j) k ∧ abTo w q i j k = nI s
  | 0 => ⟨0, Nat.le_refl _, Nat.le_refl _, rfl⟩
  | k + 1 => by
    obtain ⟨s, h1, h2, h3⟩ := abTo_b w q i j k
    obtain ⟨g, g1, g2, g3⟩ := siAt_b (w := w) (c := k / 8) (d := k % 8) 40 0 (by omega)
    cases hb : isInB w q (k / 8) (k % 8) i j with
    | true =>
      rw [cntB_s1 (p := fun k => isInB w q (k / 8) (k % 8) i j) hb]
      refine ⟨s + g, by omega, by omega, ?_⟩
      unfold abTo
      rw [h3, hb, if_pos rfl]
      show nI s + (siAt w (k / 8) (k % 8) 40 0 + nI 100) = _
      rw [g3, nI_add]
    | false =>
      rw [cntB_s0 (p := fun k => isInB w q (k / 8) (k % 8) i j) hb]
      refine ⟨s, h1, h2, ?_⟩
      unfold abTo
      rw [h3, hb]
      exact Int32.add_zero _
theorem winS_b {w : Nat → Int32} (hg : okG w) (q : Nat → Int32) (i j lo hi : Int32) : ∀ k, k ≤ 64 → ∃ s, 80 * cntB (inWin w q i j lo hi) k ≤ s ∧ s ≤ 120 * cntB (inWin w q i j lo hi) k ∧ winS w q i j lo hi k = nI s
  | 0, _ => ⟨0, Nat.le_refl _, Nat.le_refl _, rfl⟩
  | k + 1, hk => by
    obtain ⟨s, h1, h2, h3⟩ := winS_b hg q i j lo hi k (by omega)
    obtain ⟨g, g1, g2⟩ := hg k (by omega)
    cases hb : inWin w q i j lo hi k with
    | true =>
      have hp : ¬ w (94 + k) ≤ 0 := by
        unfold inWin at hb
        simp only [Bool.and_eq_true] at hb
        exact jd_nle hb.2.1
      rcases g1 with e | g1
      · exact absurd (by rw [g2, e]; decide) hp
      rw [cntB_s1 hb]
      refine ⟨s + g, by omega, by omega, ?_⟩
      unfold winS
      rw [h3, hb, if_pos rfl, g2, nI_add]
    | false =>
      rw [cntB_s0 hb]
      refine ⟨s, h1, h2, ?_⟩
      unfold winS
      rw [h3, hb]
      exact Int32.add_zero _
theorem cellGap_b {r : Nat → Int32} (hw : okW r) (hg : okG r) {i j o : Nat} (ho : r 2 = nI o) (ho2 : o ≤ 20) (hp : 1 ≤ ptN r i j o) : ∃ G, 80 ≤ G ∧ G ≤ 120 ∧ cellGap r (cq r) (nI i) (nI j) = nI G := by
  obtain ⟨e2, b2⟩ := below_c hg (i := i) (j := j) ho ho2
  have hab : ∃ s, 80 * ptN r i j o ≤ s ∧ s ≤ 120 * ptN r i j o ∧ aboveOf r (cq r) (nI i) (nI j) = nI s := by
    rcases window_c hg (i := i) (j := j) ho ho2 with ⟨q1, q2, -⟩ | ⟨q1, s, q2, q3, -, -, q5, -⟩
    · obtain ⟨s, h1, h2, h3⟩ := abTo_b r (cq r) (nI i) (nI j) 64
      have ep : ptN r i j o = cntB (fun k => isInB r (cq r) (k / 8) (k % 8) (nI i) (nI j)) 64 := if_pos q1
      rw [ep]
      refine ⟨s, h1, h2, ?_⟩
      unfold aboveOf
      rw [q2, if_pos (by decide)]
      exact h3
    · obtain ⟨s1, h1, h2, h3⟩ := winS_b hg (cq r) (nI i) (nI j) (windowOf r (cq r) (nI i) (nI j)) (windowOf r (cq r) (nI i) (nI j) + nI 2 * r 2) 64 (Nat.le_refl _)
      have ek : cntB (inWin r (cq r) (nI i) (nI j) (windowOf r (cq r) (nI i) (nI j)) (windowOf r (cq r) (nI i) (nI j) + nI 2 * r 2)) 64 = ptN r i j o := by
        have e := kept_c hg (i := i) (j := j) ho ho2
        unfold keptOf at e
        rw [winC_n] at e
        have l1 := cntB_le (inWin r (cq r) (nI i) (nI j) (windowOf r (cq r) (nI i) (nI j)) (windowOf r (cq r) (nI i) (nI j) + nI 2 * r 2)) 64
        have e9 : ptN r i j o = kpN r i j o 41 := if_neg q1
        have l2 : kpN r i j o 41 ≤ 64 := by rw [← e9]; exact b2
        rw [e9]
        exact (nI_eq (by omega) (by omega)).mp e
      rw [ek] at h1 h2
      refine ⟨s1, h1, h2, ?_⟩
      unfold aboveOf
      rw [if_neg (by rw [q3]; intro z; have := (nI_leI (by omega) (by decide)).mp (show nI (80 + s) ≤ nI 0 from z); omega)]
      exact h3
  obtain ⟨s, h1, h2, h3⟩ := hab
  refine ⟨(2 * s + ptN r i j o) / (2 * ptN r i j o), ?_, ?_, ?_⟩
  · rw [Nat.le_div_iff_mul_le (by omega)]; omega
  · apply Nat.le_of_lt_succ
    rw [Nat.div_lt_iff_lt_mul (by omega)]; omega
  · unfold cellGap
    rw [h3, e2, pk_mul, pk_mul, nI_add, pk_div (by omega) (by omega) (by omega)]
theorem rng20 {G : Nat} (h1 : 80 ≤ G) (h2 : G ≤ 120) : -100 < (nI G - nI 100).toInt ∧ (nI G - nI 100).toInt < 100 := by
  rw [pk_sub_toInt (by omega) (by omega)]
  omega
theorem gap99 {r : Nat → Int32} (hw : okW r) (hg : okG r) {i j o : Nat} (ho : r 2 = nI o) (ho2 : o ≤ 20) (hp : 1 ≤ ptN r i j o) : -100 < (cellGap r (cq r) (nI i) (nI j) - nI 100).toInt ∧ (cellGap r (cq r) (nI i) (nI j) - nI 100).toInt < 100 := by
  obtain ⟨G, h1, h2, h3⟩ := cellGap_b hw hg ho ho2 hp
  rw [h3]
  exact rng20 h1 h2
theorem str_j {r q : Nat → Int32} {c d : Nat} (h : strB r q c d = true) : (!decide (r (94 + 8 * c + d) ≤ 0)) = true := by
  unfold strB at h
  rw [Bool.and_eq_true] at h
  exact h.1
theorem jgap99 {r : Nat → Int32} (hg : okG r) {k : Nat} (hk : k < 64) (h : (!decide (r (94 + k) ≤ 0)) = true) : -100 < (r (94 + k) - nI 100).toInt ∧ (r (94 + k) - nI 100).toInt < 100 := by
  obtain ⟨g, g1, g2⟩ := hg k hk
  rcases g1 with e | g1
  · exact absurd (by rw [g2, e]; decide) (jd_nle h)
  · rw [g2]; exact rng20 g1.1 g1.2
theorem gG99 {r : Nat → Int32} (hg : okG r) {c d : Nat} (hc : c < 8) (hd : d < 8) (h : strB r (cq r) c d = true) : -100 < (gG (r (94 + 8 * c + d))).toInt ∧ (gG (r (94 + 8 * c + d))).toInt < 100 := by
  have hj := str_j h
  rw [gG_pos hj]
  rw [Nat.add_assoc] at hj ⊢
  exact jgap99 hg (by omega) hj
theorem strP_cd {r : Nat → Int32} {c d : Nat} (hd : d < 8) : strP r (cq r) (8 * c + d) = strB r (cq r) c d := by
  unfold strP
  rw [show (8 * c + d) / 8 = c by omega, show (8 * c + d) % 8 = d by omega, ← Nat.add_assoc]
  cases h : strB r (cq r) c d with
  | false => exact Bool.and_false _
  | true => rw [str_j h]; rfl
theorem smTo_n (r : Nat → Int32) : ∀ k, smTo r (cq r) k = nI (cntB (strP r (cq r)) k)
  | 0 => rfl
  | k + 1 => by
    show smTo r (cq r) k + bI (strP r (cq r) k) = _
    rw [smTo_n r k]
    cases h : strP r (cq r) k with
    | true => rw [cntB_s1 h, ← nI_1]; rfl
    | false => rw [cntB_s0 h]; exact Int32.add_zero _
theorem cntB_mono (p : Nat → Bool) : ∀ m k, cntB p k ≤ cntB p (k + m)
  | 0, k => Nat.le_refl _
  | m + 1, k => Nat.le_trans (cntB_mono p m k) (by rw [← Nat.add_assoc]; exact Nat.le_add_right _ _)
theorem nthS_some {f : Nat → Bool} : ∀ m n p, cntB f p + n < cntB f (p + m) → (nthS f n m p).isSome = true
  | 0, n, p, h => by rw [Nat.add_zero] at h; omega
  | m + 1, n, p, h => by
    unfold nthS
    rw [show p + (m + 1) = p + 1 + m by omega] at h
    cases hf : f p with
    | true =>
      rw [if_pos rfl]
      split
      · rfl
      · refine nthS_some m (n - 1) (p + 1) ?_
        rw [cntB_s1 hf]; omega
    | false =>
      refine nthS_some m n (p + 1) ?_
      rw [cntB_s0 hf]; omega
theorem nthS_lt2 {f : Nat → Bool} : ∀ m n p q, nthS f n m p = some q → cntB f p + n < cntB f (p + m)
  | 0, n, p, q, h => by cases h
  | m + 1, n, p, q, h => by
    unfold nthS at h
    rw [show p + (m + 1) = p + 1 + m by omega]
    cases hf : f p with
    | true =>
      rw [hf, if_pos rfl] at h
      have hm := cntB_mono f m (p + 1)
      rw [cntB_s1 hf] at hm
      split at h
      · omega
      · have := nthS_lt2 m (n - 1) (p + 1) q h
        rw [cntB_s1 hf] at this
        omega
    | false =>
      rw [hf] at h
      have := nthS_lt2 m n (p + 1) q h
      rw [cntB_s0 hf] at this
      omega
/-- the search for the strange pair ahead -/
def wsP (r : Nat → Int32) (n0 p : Nat) (lf : Int32) (xs : List Int32) : Prop :=
  lf = nI n0 - nI (cntB (strP r (cq r)) p) ∧
  ((cntB (strP r (cq r)) p ≤ n0 ∧ xs = [] ∧ nthS (strP r (cq r)) n0 64 0 = nthS (strP r (cq r)) (n0 - cntB (strP r (cq r)) p) (64 - p) p) ∨
   (n0 < cntB (strP r (cq r)) p ∧ ∃ q, xs = pairL r (q / 8) (q % 8) ∧ nthS (strP r (cq r)) n0 64 0 = some q))
theorem ws_b {r : Nat → Int32} {n0 : Nat} : wsP r n0 0 (nI n0) [] := by
  refine ⟨?_, Or.inl ⟨Nat.zero_le _, rfl, rfl⟩⟩
  exact (Int32.sub_zero _).symm
theorem ws_n {r : Nat → Int32} {n0 p : Nat} {lf : Int32} {xs : List Int32} (h : wsP r n0 p lf xs) (hp : p < 64) (hf : strP r (cq r) p = false) : wsP r n0 (p + 1) lf xs := by
  obtain ⟨h1, h2⟩ := h
  unfold wsP
  rw [cntB_s0 hf]
  refine ⟨h1, ?_⟩
  rcases h2 with ⟨a, b, c⟩ | h2
  · exact Or.inl ⟨a, b, c.trans (nthS_n hp hf)⟩
  · exact Or.inr h2
theorem ws_eq {n0 k : Nat} (h1 : n0 ≤ 1000) (h2 : k ≤ 1000) (h : nI n0 - nI k = 0) : n0 = k := by
  have := congrArg Int32.toInt h
  rw [pk_sub_toInt (by omega) (by omega), Int32.toInt_zero] at this
  omega
theorem ws_dec (n0 k : Nat) : nI n0 - nI k + (-1) = nI n0 - nI (k + 1) := by
  rw [← nI_1 k]
  grind
theorem ws_0 {r : Nat → Int32} {n0 p : Nat} {lf : Int32} {xs : List Int32} (h : wsP r n0 p lf xs) (hn : n0 ≤ 1000) (hp : p < 64) (h0 : lf = 0) : xs = [] ∧ n0 = cntB (strP r (cq r)) p := by
  obtain ⟨h1, h2⟩ := h
  have hl := cntB_le (strP r (cq r)) p
  have e := ws_eq hn (by omega) (h1.symm.trans h0)
  rcases h2 with h2 | h2
  · exact ⟨h2.2.1, e⟩
  · omega
theorem ws_z {r : Nat → Int32} {n0 p : Nat} {lf : Int32} {xs : List Int32} (h : wsP r n0 p lf xs) (hn : n0 ≤ 1000) (hp : p < 64) (hf : strP r (cq r) p = true) (h0 : lf = 0) : wsP r n0 (p + 1) (lf + (-1)) (pairL r (p / 8) (p % 8)) := by
  obtain ⟨-, e⟩ := ws_0 h hn hp h0
  obtain ⟨h1, h2⟩ := h
  unfold wsP
  rw [cntB_s1 hf]
  refine ⟨by rw [h1, ws_dec], Or.inr ⟨by omega, p, rfl, ?_⟩⟩
  rcases h2 with ⟨a, b, c⟩ | h2
  · rw [c]
    exact nthS_z hp hf (by omega)
  · omega
theorem ws_s {r : Nat → Int32} {n0 p : Nat} {lf : Int32} {xs : List Int32} (h : wsP r n0 p lf xs) (hp : p < 64) (hf : strP r (cq r) p = true) (h0 : ¬ lf = 0) : wsP r n0 (p + 1) (lf + (-1)) xs := by
  obtain ⟨h1, h2⟩ := h
  unfold wsP
  rw [cntB_s1 hf]
  refine ⟨by rw [h1, ws_dec], ?_⟩
  rcases h2 with ⟨a, b, c⟩ | ⟨a, h2⟩
  · have hne : ¬ n0 = cntB (strP r (cq r)) p := fun e => h0 (by rw [h1, e]; exact Int32.sub_self _)
    refine Or.inl ⟨by omega, b, c.trans ((nthS_s hp hf (by omega)).trans ?_)⟩
    rw [show n0 - cntB (strP r (cq r)) p - 1 = n0 - (cntB (strP r (cq r)) p + 1) by omega]
  · exact Or.inr ⟨by omega, h2⟩
theorem ws_e {r : Nat → Int32} {n0 : Nat} {lf : Int32} {xs : List Int32} (h : wsP r n0 64 lf xs) (hs : (nthS (strP r (cq r)) n0 64 0).isSome = true) : (nthS (strP r (cq r)) n0 64 0).map (fun p => pairL r (p / 8) (p % 8)) = some xs := by
  rcases h.2 with ⟨a, b, c⟩ | ⟨a, q, e1, e2⟩
  · rw [c] at hs; cases hs
  · rw [e2, e1]; rfl
theorem pair_txt {r : Nat → Int32} {c d : Nat} (h : strB r (cq r) c d = true) : ((([] ++ [nI (97 + c)]) ++ [nI (97 + d)]) ++ [nI 32]) ++ numS (gG (r (94 + 8 * c + d))) = pairL r c d := by
  rw [gG_pos (str_j h)]
  rfl
theorem dig_n {i : Nat} (h : i ≤ 9) : numS (nI i) = [nI (48 + i)] := by
  rw [numS_1 i h]
  unfold digOne
  rw [Nat.mod_eq_of_lt (by omega)]
theorem cell_txt {r : Nat → Int32} {i j : Nat} (hi : i ≤ 9) (hj : j ≤ 9) : (((([] ++ numS (nI i)) ++ [nI 47]) ++ numS (nI j)) ++ [nI 32]) ++ numS (cellGap r (cq r) (nI i) (nI j) - nI 100) = cellL r (cq r) i j := by
  rw [dig_n hi, dig_n hj]
  rfl
theorem by_num {g : Int32} (h : -100 < g.toInt ∧ g.toInt < 100) : ∀ x ∈ numS g, ∃ c, c < 128 ∧ x = nI c := by
  obtain ⟨m, hm, e⟩ := num99 h
  have o1 : ∃ c, c < 128 ∧ digOne m = nI c := ⟨_, by omega, rfl⟩
  have o2 : ∃ c, c < 128 ∧ digTen m = nI c := ⟨48 + m / 10, by omega, rfl⟩
  have o3 : ∃ c, c < 128 ∧ nI 45 = nI c := ⟨45, by omega, rfl⟩
  intro x hx
  rcases e with e | ⟨h0, e⟩
  · rw [e] at hx
    by_cases h9 : m ≤ 9
    · rw [numS_1 m h9] at hx
      simp only [List.mem_cons, List.not_mem_nil, or_false] at hx
      rw [hx]; exact o1
    · rw [numS_2 m hm (by omega)] at hx
      simp only [List.mem_cons, List.not_mem_nil, or_false] at hx
      rcases hx with e | e
      · rw [e]; exact o2
      · rw [e]; exact o1
  · rw [e] at hx
    by_cases h9 : m ≤ 9
    · rw [numS_3 m h9 h0] at hx
      simp only [List.mem_cons, List.not_mem_nil, or_false] at hx
      rcases hx with e | e
      · rw [e]; exact o3
      · rw [e]; exact o1
    · rw [numS_4 m hm (by omega)] at hx
      simp only [List.mem_cons, List.not_mem_nil, or_false] at hx
      rcases hx with e | e | e
      · rw [e]; exact o3
      · rw [e]; exact o2
      · rw [e]; exact o1
theorem cell_pt {r : Nat → Int32} (hg : okG r) {i j o : Nat} (ho : r 2 = nI o) (ho2 : o ≤ 20) (hi : i < clM r 1) (hj : j < clM r 0) : 1 ≤ ptN r i j o := by
  obtain ⟨c9, d9, q1, q2, -, -, q3⟩ := cell_in hi hj
  exact pt_pos hg ho ho2 (k := 8 * c9 + d9) (by omega) ((inC_cd q2).trans q3)
theorem lineL_by {r : Nat → Int32} (hw : okW r) (hg : okG r) {o : Nat} (ho : r 2 = nI o) (ho2 : o ≤ 20) {k : Int32} {ys : List Int32} (h : lineL r k = some ys) : ∀ x ∈ ys, ∃ c, c < 128 ∧ x = nI c := by
  have m0 := clM_le r 0
  have m1 := clM_le r 1
  unfold lineL at h
  split at h
  · cases h
  · split at h
    · rename_i hk
      cases h
      have hz : 0 < clM r 0 := by
        rcases Nat.eq_zero_or_pos (clM r 0) with e | e
        · rw [e, Nat.zero_mul] at hk; omega
        · exact e
      have hi : k.toInt.toNat / clM r 0 < clM r 1 := by rw [Nat.div_lt_iff_lt_mul hz, Nat.mul_comm]; exact hk
      have hj : k.toInt.toNat % clM r 0 < clM r 0 := Nat.mod_lt _ hz
      intro x hx
      unfold cellL at hx
      simp only [List.mem_append, List.mem_cons, List.not_mem_nil, or_false] at hx
      rcases hx with (e | e | e | e) | e
      · exact ⟨_, by omega, e⟩
      · exact ⟨_, by omega, e⟩
      · exact ⟨_, by omega, e⟩
      · exact ⟨_, by omega, e⟩
      · exact by_num (gap99 hw hg ho ho2 (cell_pt hg ho ho2 hi hj)) x e
    · split at h
      · cases h
      · rename_i p hp
        cases h
        obtain ⟨-, hp2, hp3⟩ := nthS_lt hp
        intro x hx
        unfold pairL at hx
        simp only [List.mem_append, List.mem_cons, List.not_mem_nil, or_false] at hx
        rcases hx with (e | e | e) | e
        · exact ⟨_, by omega, e⟩
        · exact ⟨_, by omega, e⟩
        · exact ⟨_, by omega, e⟩
        · refine by_num ?_ x e
          unfold strP at hp3
          rw [Bool.and_eq_true] at hp3
          rw [show 94 + 8 * (p / 8) + p % 8 = 94 + p by omega]
          exact jgap99 hg (by omega) hp3.1
theorem lineL_in {r : Nat → Int32} {k : Nat} (hk : k < 2147483648) (h : k < clM r 1 * clM r 0 + cntB (strP r (cq r)) 64) : ∃ ys, lineL r (nI k) = some ys := by
  by_cases h1 : k < clM r 0 * clM r 1
  · exact ⟨_, lineL_cell h1⟩
  · have h2 : clM r 1 * clM r 0 = clM r 0 * clM r 1 := Nat.mul_comm _ _
    rw [h2] at h
    have hs := nthS_some (f := strP r (cq r)) 64 (k - clM r 0 * clM r 1) 0 (by show 0 + _ < cntB _ (0 + 64); rw [Nat.zero_add, Nat.zero_add]; omega)
    obtain ⟨p, hp⟩ := Option.isSome_iff_exists.mp hs
    exact ⟨_, (lineL_str hk (by omega) hp).trans rfl⟩
theorem lineL_out {r : Nat → Int32} {k : Nat} (hk : k < 2147483648) (h : clM r 1 * clM r 0 + cntB (strP r (cq r)) 64 ≤ k) : lineL r (nI k) = none := by
  have h2 : clM r 1 * clM r 0 = clM r 0 * clM r 1 := Nat.mul_comm _ _
  rw [h2] at h
  rw [lineL_str hk (by omega) rfl]
  cases hn : nthS (strP r (cq r)) (k - clM r 0 * clM r 1) 64 0 with
  | none => rfl
  | some q =>
    have := nthS_lt2 64 _ 0 q hn
    have this : 0 + (k - clM r 0 * clM r 1) < cntB (strP r (cq r)) (0 + 64) := this
    rw [Nat.zero_add, Nat.zero_add] at this
    omega
theorem sbB_at {xs : List Int32} {k : Nat} (h : k < xs.length) : sbB xs k = xs[k] := by
  have := putL_get xs (fun _ => 0) 0 k h
  rw [Nat.zero_add] at this
  exact this
theorem mul_ne {l a b : Nat} (h : l < a * b) : ¬ b = 0 := by
  intro e; rw [e, Nat.mul_zero] at h; omega
theorem line_str {r : Nat → Int32} {k : Nat} {ys : List Int32} (hk : k < 2147483648) (h : ¬ k < clM r 1 * clM r 0) (hy : (nthS (strP r (cq r)) (k - clM r 1 * clM r 0) 64 0).map (fun p => pairL r (p / 8) (p % 8)) = some ys) : lineL r (nI k) = some ys := by
  rw [Nat.mul_comm] at h hy
  exact (lineL_str hk (by omega) rfl).trans hy
theorem line_isS {r : Nat → Int32} {k : Nat} (hl : k < clM r 1 * clM r 0 + cntB (strP r (cq r)) 64) (h : ¬ k < clM r 1 * clM r 0) : (nthS (strP r (cq r)) (k - clM r 1 * clM r 0) 64 0).isSome = true := by
  refine nthS_some 64 _ 0 ?_
  show 0 + _ < cntB _ (0 + 64)
  rw [Nat.zero_add, Nat.zero_add]
  omega
