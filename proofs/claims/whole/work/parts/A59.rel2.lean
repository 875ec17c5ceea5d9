/-! deeds: the class beside the reference -/
def core (w : Nat → Int32) (pc fi : Nat) (rh : Nat → Nat → Int32) : Prop := pastP w pc fi rh ∧ rowsOK w pc ∧ fi < 16 ∧ pc ≤ 16
def stepP (w : Nat → Int32) (u : Nat) (V V' : Int32) (r2 W : Nat → Int32) (u2 f2 c2 U : Nat) (rh2 : Nat → Nat → Int32) : Prop :=
  V = V' ∧ U = c2 ∧ agr r2 W ∧ core W c2 f2 rh2 ∧ (∀ k, 2686 ≤ k → k < 3002 → W k = w k) ∧ ((u2 = u ∧ agr w W) ∨ u2 = u + 1)
theorem step_stay {w r r2 W : Nat → Int32} {u pc fi u2 f2 c2 U : Nat} {rh rh2 : Nat → Nat → Int32} {V V' V0 : Int32} (h : core w pc fi rh) (hr : agr w r) (hC : (V, r2, u2, f2, c2, rh2) = stayC r u fi pc rh V0) (hR : (V', W, U) = (V0, w, pc)) : stepP w u V V' r2 W u2 f2 c2 U rh2 := by
  unfold stayC at hC
  cases hC
  cases hR
  exact ⟨rfl, rfl, hr.symm, h, fun _ _ _ => rfl, Or.inl ⟨rfl, agr.refl w⟩⟩
theorem step_deed {w r r' r2 W : Nat → Int32} {u pc fi u2 f2 c2 U : Nat} {rh rh2 : Nat → Nat → Int32} {V V' V0 : Int32} (h : core w pc fi rh) (hr : agr w r) (hC : (V, r2, u2, f2, c2, rh2) = deedC r u fi pc rh V0 r') (hR : (V', W, U) = (V0, r', memU pc)) (hd : deedW w r') (hok : rowOK r') : stepP w u V V' r2 W u2 f2 c2 U rh2 := by
  unfold deedC at hC
  injection hC with e1 hC
  injection hC with e2 hC
  injection hC with e3 hC
  injection hR with f1 hR
  injection hR with f4 f5
  obtain ⟨p1, p2, p3, p4⟩ := h
  obtain ⟨a1, a2, a3, a4⟩ := deed_past p1 p3 p4 hr hC hd.1
  subst e1; subst e2; subst e3; subst f1; subst f4; subst f5
  exact ⟨rfl, a1.symm, agr.refl _, ⟨a4, by rw [a1]; exact deed_rows p2 p4 hd.1 hok, a2, a3⟩, hd.2, Or.inr rfl⟩
theorem core.row {w : Nat → Int32} {pc fi : Nat} {rh : Nat → Nat → Int32} (h : core w pc fi rh) : rowOK w := h.2.1.row
theorem core.mem {w : Nat → Int32} {pc fi : Nat} {rh : Nat → Nat → Int32} (h : core w pc fi rh) : rowOK (memTo w 0) := rowOK_c h.row (fun k hk => memTo_lo w hk)
theorem in07x {c : Int32} (h : inB c.toInt64 0 7 = true) : ∃ j, j < 8 ∧ c = nI j := by
  obtain ⟨j, h1, h2⟩ := inT (n := 7) (by decide) h
  exact ⟨j, by omega, h2⟩
theorem op_letter {w r2 W : Nat → Int32} {u pc fi u2 f2 c2 U : Nat} {rh rh2 : Nat → Nat → Int32} {V V' c l x d : Int32} (h : core w pc fi rh) (hC : (V, r2, u2, f2, c2, rh2) = letterC (memTo w 0) u fi pc rh c l x d) (hR : (V', W, U) = letterR w pc c l x d) : stepP w u V V' r2 W u2 f2 c2 U rh2 := by
  unfold letterC at hC
  unfold letterR at hR
  cases hb : letB c l x d with
  | false =>
    rw [hb] at hC hR
    exact step_stay h (agr_mem w) hC hR
  | true =>
    rw [hb, if_pos rfl] at hC hR
    unfold letB at hb
    rw [Bool.and_eq_true] at hb
    obtain ⟨j, hj, rfl⟩ := in07x hb.1
    rw [nI_cl (by omega)] at hC hR
    exact step_deed h (agr_mem w) hC hR (deedW_know hj) (h.mem.know hj (fun i _ => dgt_lt _ _) (fun i _ => dgt_lt _ _))
theorem op_forget {w r2 W : Nat → Int32} {u pc fi u2 f2 c2 U : Nat} {rh rh2 : Nat → Nat → Int32} {V V' c : Int32} (h : core w pc fi rh) (hC : (V, r2, u2, f2, c2, rh2) = forgetC (memTo w 0) u fi pc rh c) (hR : (V', W, U) = forgetR w pc c) : stepP w u V V' r2 W u2 f2 c2 U rh2 := by
  unfold forgetC at hC
  unfold forgetR at hR
  rw [memTo_lo w (by omega)] at hC
  cases hb : isKn (w 0) c with
  | false =>
    rw [hb] at hC hR
    exact step_stay h (agr_mem w) hC hR
  | true =>
    rw [hb, if_pos rfl] at hC hR
    obtain ⟨j, hj, rfl, -⟩ := isKn_in hb
    rw [nI_cl (by omega)] at hC hR
    exact step_deed h (agr_mem w) hC hR (deedW_drop hj) (h.mem.drop hj)
theorem term_in {k v : Int32} (h : termB k v = true) : ∃ j x, j < 5 ∧ k = nI j ∧ x ≤ mostN j ∧ v = nI x := by
  have h0 := h
  unfold termB at h0
  rw [Bool.and_eq_true] at h0
  obtain ⟨j, hj, rfl⟩ := inT (n := 4) (by decide) h0.1
  rw [termB_n hj] at h
  rw [inB_z, tm_low j (by omega), Int32.toInt_toInt64, nI_toInt (by have := most_b j; omega)] at h
  simp only [Bool.and_eq_true, decide_eq_true_eq] at h
  refine ⟨j, v.toInt.toNat, by omega, rfl, ?_, ?_⟩
  · split at h <;> omega
  · apply Int32.toInt_inj.mp
    have := most_b j
    rw [nI_toInt (by split at h <;> omega)]
    split at h <;> omega
theorem op_term {w r2 W : Nat → Int32} {u pc fi u2 f2 c2 U : Nat} {rh rh2 : Nat → Nat → Int32} {V V' k v : Int32} (h : core w pc fi rh) (hC : (V, r2, u2, f2, c2, rh2) = termC (memTo w 0) u fi pc rh k v) (hR : (V', W, U) = termR w pc k v) : stepP w u V V' r2 W u2 f2 c2 U rh2 := by
  unfold termC at hC
  unfold termR at hR
  cases hb : termB k v with
  | false =>
    rw [hb] at hC hR
    exact step_stay h (agr_mem w) hC hR
  | true =>
    rw [hb, if_pos rfl] at hC hR
    obtain ⟨j, x, hj, rfl, hx, rfl⟩ := term_in hb
    rw [nI_cl (by omega)] at hC hR
    rw [memTo_lo w (by omega)] at hC
    exact step_deed h (agr_mem w) hC hR (deedW_upd (by omega)) (h.mem.term hj hx)
theorem op_withdraw {w r2 W : Nat → Int32} {u pc fi u2 f2 c2 U : Nat} {rh rh2 : Nat → Nat → Int32} {V V' c d : Int32} (h : core w pc fi rh) (hC : (V, r2, u2, f2, c2, rh2) = withdrawC (memTo w 0) u fi pc rh c d) (hR : (V', W, U) = withdrawR w pc c d) : stepP w u V V' r2 W u2 f2 c2 U rh2 := by
  unfold withdrawC at hC
  unfold withdrawR at hR
  rw [memTo_lo w (show 0 < 158 by omega)] at hC
  cases hb : isKn (w 0) c && isKn (w 0) d with
  | false =>
    rw [hb] at hC hR
    exact step_stay h (agr_mem w) hC hR
  | true =>
    rw [hb, if_pos rfl] at hC hR
    rw [Bool.and_eq_true] at hb
    obtain ⟨i, hi, rfl, ki⟩ := isKn_in hb.1
    obtain ⟨j, hj, rfl, kj⟩ := isKn_in hb.2
    rw [nI_cl (by omega), nI_cl (by omega)] at hC hR
    rw [memTo_lo w (by omega)] at hC
    obtain ⟨g, g1, g2⟩ := h.row.2.2.1 (8 * i + j) (by omega)
    rw [← Nat.add_assoc] at g2
    by_cases hz : w (94 + 8 * i + j) = 0
    · rw [if_pos (by rw [hz]; decide)] at hC
      rw [if_pos hz] at hR
      exact step_stay h (agr_mem w) hC hR
    · have hz2 : ¬ w (94 + 8 * i + j) ≤ 0 := by
        intro q
        rw [g2] at q
        have := (nI_leI (by omega) (by decide)).mp (show nI g ≤ nI 0 from q)
        exact hz (by rw [g2, show g = 0 by omega]; rfl)
      rw [if_neg hz2] at hC
      rw [if_neg hz] at hR
      exact step_deed h (agr_mem w) hC hR (deedW_upd (by omega)) (h.mem.gap hi hj (Or.inl rfl) (by rw [memTo_lo w (by omega)]; exact ki) (by rw [memTo_lo w (by omega)]; exact kj))
theorem op_judge {w r2 W : Nat → Int32} {u pc fi u2 f2 c2 U : Nat} {rh rh2 : Nat → Nat → Int32} {V V' c d g : Int32} (h : core w pc fi rh) (hC : (V, r2, u2, f2, c2, rh2) = judgeC (memTo w 0) u fi pc rh c d g) (hR : (V', W, U) = judgeR w pc c d g) : stepP w u V V' r2 W u2 f2 c2 U rh2 := by
  unfold judgeC at hC
  unfold judgeR at hR
  rw [memTo_lo w (show 0 < 158 by omega)] at hC
  cases hb : isKn (w 0) c && isKn (w 0) d with
  | false =>
    rw [hb] at hC hR
    exact step_stay h (agr_mem w) hC hR
  | true =>
    rw [hb, if_pos rfl] at hC hR
    rw [Bool.and_eq_true] at hb
    obtain ⟨i, hi, rfl, ki⟩ := isKn_in hb.1
    obtain ⟨j, hj, rfl, kj⟩ := isKn_in hb.2
    rw [nI_cl (by omega), nI_cl (by omega)] at hC hR
    cases hg : inB g.toInt64 (-20) 20 with
    | false =>
      rw [hg] at hC hR
      exact step_stay h (agr_mem w) hC hR
    | true =>
      rw [hg, if_pos rfl] at hC hR
      obtain ⟨x, x1, x2, x3, -⟩ := gap_in hg
      refine step_deed h (agr_mem w) hC hR (deedW_upd (by omega)) ?_
      rw [x3]
      exact h.mem.gap hi hj (Or.inr ⟨x1, x2⟩) (by rw [memTo_lo w (by omega)]; exact ki) (by rw [memTo_lo w (by omega)]; exact kj)
/-! undo -/
theorem undTo_at (w : Nat → Int32) {n : Nat} (hn : 1 ≤ n) : ∀ i k, undTo w n i k = if k < 158 * i then w (k + 158 * n) else w k
  | 0, k => by rw [if_neg (by omega)]; rfl
  | i + 1, k => by
    unfold undTo cpRow cpTo
    by_cases h1 : 158 * i ≤ k ∧ k < 158 * i + 158
    · rw [if_pos h1, undTo_at w hn i, if_neg (by omega), if_pos (by omega)]
      congr 1
      have : 158 * (i + n) = 158 * i + 158 * n := Nat.mul_add _ _ _
      omega
    · rw [if_neg h1, undTo_at w hn i]
      by_cases h2 : k < 158 * i
      · rw [if_pos h2, if_pos (by omega)]
      · rw [if_neg h2, if_neg (by omega)]
theorem in1n {n : Int32} {m : Nat} (hm : m < 2147483648) (h : inB n.toInt64 1 (lN m) = true) : ∃ j, 1 ≤ j ∧ j ≤ m ∧ n = nI j := by
  rw [inB_z, show (1 : Int64).toInt = 1 from rfl] at h
  simp only [Bool.and_eq_true, decide_eq_true_eq] at h
  have e : (lN m).toInt = (m : Int) := by
    have := nI_l hm
    rw [← this, Int32.toInt_toInt64, nI_toInt hm]
  rw [e] at h
  refine ⟨n.toInt.toNat, by omega, by omega, ?_⟩
  apply Int32.toInt_inj.mp
  rw [nI_toInt (by omega)]
  omega
theorem op_undo {w r2 W : Nat → Int32} {u pc fi u2 c2 U : Nat} {rh : Nat → Nat → Int32} {V V' n : Int32} (h : core w pc fi rh) (hC : (V, r2, u2, c2) = undoC w u fi pc rh n) (hR : (V', W, U) = undoR w pc n) : stepP w u V V' r2 W u2 fi c2 U rh := by
  unfold undoC at hC
  unfold undoR at hR
  cases hb : inB n.toInt64 1 16 with
  | false =>
    rw [hb] at hC hR
    cases hC; cases hR
    exact ⟨rfl, rfl, agr.refl _, h, fun _ _ _ => rfl, Or.inl ⟨rfl, agr.refl w⟩⟩
  | true =>
    rw [hb, if_pos rfl] at hC hR
    obtain ⟨j, h1, h2, rfl⟩ := in1n (m := 16) (by decide) hb
    rw [nI_cl (by omega)] at hC hR
    by_cases hp : j ≤ pc
    · rw [if_pos hp] at hC hR
      cases hC; cases hR
      obtain ⟨p1, p2, p3, p4⟩ := h
      have hr : ∀ k, k < 158 → rh ((fi + (pc - j)) % 16) k = undTo w j (17 - j) k := by
        intro k hk
        rw [undTo_at w h1, if_pos (by omega), Nat.add_comm k]
        have := p1 j h1 hp k hk
        rw [show fi + pc - j = fi + (pc - j) by omega] at this
        exact this
      refine ⟨hr 0 (by omega), rfl, hr, ⟨fun i q1 q2 k hk => ?_, fun i q => ?_, p3, by omega⟩, fun k q1 q2 => ?_, Or.inr rfl⟩
      · rw [undTo_at w h1, if_pos (by omega)]
        have := p1 (i + j) (by omega) (by omega) k hk
        rw [show fi + pc - (i + j) = fi + (pc - j) - i by omega] at this
        rw [this, Nat.mul_add]
        congr 1
        omega
      · refine rowOK_c (p2 (i + j) (by omega)) (fun k hk => ?_)
        show undTo w j (17 - j) (158 * i + k) = w (158 * (i + j) + k)
        rw [undTo_at w h1, if_pos (by omega), Nat.mul_add]
        congr 1
        omega
      · rw [undTo_at w h1, if_neg (by omega)]
    · rw [if_neg hp] at hC hR
      cases hC; cases hR
      exact ⟨rfl, rfl, agr.refl _, h, fun _ _ _ => rfl, Or.inl ⟨rfl, agr.refl w⟩⟩
