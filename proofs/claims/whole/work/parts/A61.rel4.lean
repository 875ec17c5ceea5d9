/-! images, the text, the seed -/
def imgP (w : Nat → Int32) (kp : Int32) (ir : Nat → Nat → Int32) (iss ik : Nat → Int32) : Prop :=
  (∃ m : Nat, m < 4 ∧ kp = nI m) ∧ ∀ k, k < 2 → (hasB kp (nI k) = true → ¬ ik k = 0 ∧ agr (ir k) (fun j => w (158 * (17 + k) + j)) ∧ rowOK (ir k) ∧ ∃ s : Nat, s < 2147483648 ∧ iss k = nI s) ∧ (hasB kp (nI k) = false → ik k = 0)
theorem imgP.next {w W : Nat → Int32} {kp : Int32} {ir : Nat → Nat → Int32} {iss ik : Nat → Int32} (h : imgP w kp ir iss ik) (e : ∀ k, 2686 ≤ k → k < 3002 → W k = w k) : imgP W kp ir iss ik := by
  refine ⟨h.1, fun k hk => ⟨fun hb => ?_, (h.2 k hk).2⟩⟩
  obtain ⟨a1, a2, a3, a4⟩ := (h.2 k hk).1 hb
  refine ⟨a1, fun j hj => ?_, a3, a4⟩
  rw [a2 j hj]
  exact (e _ (by omega) (by omega)).symm
theorem bits_kp : ∀ m, m < 4 → ∀ j, j < 2 → ((nI m ||| (nI 1 <<< (nI j &&& 31))).toNatClampNeg < 4 ∧ nI m ||| (nI 1 <<< (nI j &&& 31)) = nI (nI m ||| (nI 1 <<< (nI j &&& 31))).toNatClampNeg) ∧ ∀ k, k < 2 → hasB (nI m ||| (nI 1 <<< (nI j &&& 31))) (nI k) = (hasB (nI m) (nI k) || decide (k = j)) := by decide +kernel
theorem in01x {k : Int32} (h : inB k.toInt64 0 1 = true) : ∃ j, j < 2 ∧ k = nI j := by
  obtain ⟨j, h1, h2⟩ := inT (n := 1) (by decide) h
  exact ⟨j, by omega, h2⟩
theorem op_keep {w W Is is2 ik2 : Nat → Int32} {pc fi c2 U s : Nat} {rh ir ir2 : Nat → Nat → Int32} {iss ik : Nat → Int32} {V V' kp Kp k : Int32} (h : core w pc fi rh) (hi : imgP w kp ir iss ik) (hs : s < 2147483648) (hC : (V, ir2, is2, ik2, c2) = keepC w ir iss ik (nI s) pc k) (hR : (V', W, Is, Kp, U) = keepR w iss pc kp (nI s) k) : V = V' ∧ Is = is2 ∧ U = c2 ∧ agr w W ∧ core W c2 fi rh ∧ imgP W Kp ir2 is2 ik2 := by
  unfold keepC at hC
  unfold keepR at hR
  cases hb : inB k.toInt64 0 1 with
  | false =>
    rw [hb] at hC hR
    injection hC with e1 hC
    injection hC with e2 hC
    injection hC with e3 hC
    injection hC with e4 e5
    injection hR with f1 hR
    injection hR with f2 hR
    injection hR with f3 hR
    injection hR with f4 f5
    subst e1 e2 e3 e4 e5 f1 f2 f3 f4 f5
    exact ⟨rfl, rfl, rfl, agr.refl _, h, hi⟩
  | true =>
    rw [hb, if_pos rfl] at hC hR
    obtain ⟨j, hj, rfl⟩ := in01x hb
    rw [nI_cl (by omega)] at hC hR
    injection hC with e1 hC
    injection hC with e2 hC
    injection hC with e3 hC
    injection hC with e4 e5
    injection hR with f1 hR
    injection hR with f2 hR
    injection hR with f3 hR
    injection hR with f4 f5
    obtain ⟨p1, p2, p3, p4⟩ := h
    obtain ⟨⟨m, hm, hk⟩, him⟩ := hi
    obtain ⟨⟨b1, b2⟩, b3⟩ := bits_kp m hm j hj
    have ag : agr w W := by rw [f2]; exact agr_cp w (by omega)
    refine ⟨by rw [e1, f1], by rw [f3, e3], by rw [f5, e5], ag, ⟨fun i q1 q2 => by omega, fun i q => ?_, p3, by omega⟩, ⟨⟨_, b1, by rw [f4, hk]; exact b2⟩, fun i hi2 => ?_⟩⟩
    · obtain rfl : i = 0 := by omega
      exact rowOK_c (rowsOK.row p2) (fun k hk => by show W (158 * 0 + k) = w k; rw [Nat.mul_zero, Nat.zero_add]; exact (ag k hk).symm)
    · rw [f4, hk, b3 i hi2]
      rw [hk] at him
      by_cases q : i = j
      · subst q
        rw [decide_eq_true rfl, Bool.or_true]
        refine ⟨fun _ => ⟨by rw [e4, pk_us]; decide, fun n hn => ?_, ?_, s, hs, by rw [e3]; exact pk_us⟩, fun z => by cases z⟩
        · rw [e2, f2]
          show rgU ir i w i n = cpRow w 0 (17 + i) (158 * (17 + i) + n)
          unfold rgU cpRow cpTo
          rw [if_pos rfl, if_pos (by omega), show 158 * 0 + (158 * (17 + i) + n - 158 * (17 + i)) = n by omega]
        · rw [e2]
          unfold rgU
          rw [if_pos rfl]
          exact rowsOK.row p2
      · rw [decide_eq_false q, Bool.or_false]
        obtain ⟨g1, g2⟩ := him i hi2
        refine ⟨fun z => ?_, fun z => ?_⟩
        · obtain ⟨a1, a2, a3, a4⟩ := g1 z
          refine ⟨by rw [e4, pk_un (by omega)]; exact a1, fun n hn => ?_, ?_, by rw [e3, pk_un (by omega)]; exact a4⟩
          · rw [e2, f2]
            show rgU ir j w i n = cpRow w 0 (17 + j) (158 * (17 + i) + n)
            unfold rgU cpRow cpTo
            rw [if_neg q, if_neg (by omega)]
            exact a2 n hn
          · rw [e2]
            unfold rgU
            rw [if_neg q]
            exact a3
        · rw [e4, pk_un (by omega)]; exact g2 z
theorem op_goBack {w r2 W : Nat → Int32} {u pc fi u2 c2 U s : Nat} {rh ir : Nat → Nat → Int32} {iss ik : Nat → Int32} {V V' S2 S' kp k : Int32} (h : core w pc fi rh) (hi : imgP w kp ir iss ik) (hs : s < 2147483648) (hC : (V, r2, u2, S2, c2) = goBackC w u ir iss ik (nI s) pc k) (hR : (V', W, S', U) = goBackR w iss pc kp (nI s) k) : stepP w u V V' r2 W u2 fi c2 U rh ∧ S' = S2 ∧ ∃ s2 : Nat, s2 < 2147483648 ∧ S2 = nI s2 := by
  unfold goBackC at hC
  unfold goBackR at hR
  cases hb : inB k.toInt64 0 1 with
  | false =>
    rw [hb] at hC hR
    injection hC with e1 hC
    injection hC with e2 hC
    injection hC with e3 hC
    injection hC with e4 e5
    injection hR with f1 hR
    injection hR with f2 hR
    injection hR with f3 f4
    subst e1 e2 e3 e4 e5 f1 f2 f3 f4
    exact ⟨⟨rfl, rfl, agr.refl _, h, fun _ _ _ => rfl, Or.inl ⟨rfl, agr.refl _⟩⟩, rfl, s, hs, rfl⟩
  | true =>
    rw [hb, if_pos rfl] at hC hR
    obtain ⟨j, hj, rfl⟩ := in01x hb
    rw [nI_cl (by omega)] at hC hR
    obtain ⟨g1, g2⟩ := hi.2 j hj
    cases hk : hasB kp (nI j) with
    | false =>
      rw [hk] at hR
      rw [if_pos (g2 hk)] at hC
      injection hC with e1 hC
      injection hC with e2 hC
      injection hC with e3 hC
      injection hC with e4 e5
      injection hR with f1 hR
      injection hR with f2 hR
      injection hR with f3 f4
      subst e1 e2 e3 e4 e5 f1 f2 f3 f4
      exact ⟨⟨rfl, rfl, agr.refl _, h, fun _ _ _ => rfl, Or.inl ⟨rfl, agr.refl _⟩⟩, rfl, s, hs, rfl⟩
    | true =>
      rw [hk, if_pos rfl] at hR
      obtain ⟨a1, a2, a3, s2, a4, a5⟩ := g1 hk
      rw [if_neg a1] at hC
      injection hC with e1 hC
      injection hC with e2 hC
      injection hC with e3 hC
      injection hC with e4 e5
      injection hR with f1 hR
      injection hR with f2 hR
      injection hR with f3 f4
      have ag : agr (ir j) W := fun i hi => by
        rw [a2 i hi, f2]
        unfold cpRow cpTo
        rw [if_pos (by omega), show i - 158 * 0 = i by omega]
      obtain ⟨p1, p2, p3, p4⟩ := h
      refine ⟨⟨by rw [e1, f1], by rw [f4, e5], by rw [e2]; exact ag, ⟨fun i q1 q2 => by omega, fun i q => ?_, p3, by omega⟩, fun i q1 q2 => ?_, Or.inr e3⟩, by rw [f3, e4], s2, a4, by rw [e4]; exact a5⟩
      · obtain rfl : i = 0 := by omega
        exact rowOK_c a3 (fun k hk => by show W (158 * 0 + k) = _; rw [Nat.mul_zero, Nat.zero_add]; exact (ag k hk).symm)
      · rw [f2]
        unfold cpRow cpTo
        rw [if_neg (by omega)]
theorem feed_ok {t T : Nat → Nat} {sz Z : Nat} {V c : Int32} (hs : sz ≤ 150) (ht : ∀ k, t k < 256) (h : (V, T, Z) = feedR t sz c) : Z ≤ 150 ∧ ∀ k, T k < 256 := by
  unfold feedR at h
  cases hb : inB c.toInt64 0 255 with
  | false =>
    rw [hb] at h
    injection h with e1 h
    injection h with e2 e3
    subst e2 e3
    exact ⟨hs, ht⟩
  | true =>
    rw [hb, if_pos rfl] at h
    obtain ⟨j, hj, rfl⟩ := inT (n := 255) (by decide) hb
    rw [nI_cl (by omega)] at h
    split at h
    · injection h with e1 h
      injection h with e2 e3
      subst e2 e3
      exact ⟨hs, ht⟩
    · injection h with e1 h
      injection h with e2 e3
      subst e2 e3
      refine ⟨by omega, fun k => ?_⟩
      unfold updN
      split
      · omega
      · exact ht k
theorem seed_ok {s : Nat} {V S x : Int32} (hs : s < 2147483648) (h : (V, S) = seedR (nI s) x) : ∃ s2 : Nat, s2 < 2147483648 ∧ S = nI s2 := by
  unfold seedR at h
  split at h
  · rename_i h0
    injection h with e1 e2
    obtain ⟨j, hj, e⟩ := i32_nat h0
    exact ⟨j, hj, by rw [e2, e]⟩
  · injection h with e1 e2
    exact ⟨s, hs, e2⟩
