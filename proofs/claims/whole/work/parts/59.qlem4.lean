theorem w_cmp {t : Nat → Nat} {a b : Nat} (L : List Nat) (X : Int64) (hX : X = lN (cdTo (fun i => L.getD i 0) 0 L.length)) (hL : L.length ≤ 6) (hr : ∀ i, i < L.length → 97 ≤ L.getD i 0 ∧ L.getD i 0 ≤ 122) (ht : ∀ k, a ≤ k → k < b → 97 ≤ t k ∧ t k ≤ 122) : lg_cmp (lN (wcd t a b)) X = 0 ↔ wordL t a b = L := by
  rw [lg_cmp_eq, hX, ← wcd_eq L hL hr ht]
  have h1 : wcd t a b < 27 ^ 10 := by
    unfold wcd
    have : cdTo t a (if b - a < 10 then b - a else 10) < 27 ^ (if b - a < 10 then b - a else 10) := cdTo_lt (fun i hi => (ht (a + i) (by omega) (by split at hi <;> omega)).2)
    have h2 : 27 ^ (if b - a < 10 then b - a else 10) ≤ 27 ^ 10 := Nat.pow_le_pow_right (by omega) (by split <;> omega)
    omega
  have h2 : cdTo (fun i => L.getD i 0) 0 L.length < 27 ^ 6 := by
    have : cdTo (fun i => L.getD i 0) 0 L.length < 27 ^ L.length := cdTo_lt (fun i hi => by rw [Nat.zero_add]; exact (hr i hi).2)
    have h3 : 27 ^ L.length ≤ 27 ^ 6 := Nat.pow_le_pow_right (by omega) hL
    omega
  exact pk_lEQ (by omega) (by omega)
theorem sm_rng {t : Nat → Nat} {sz p : Nat} : ∀ k, p ≤ k → k < sm t sz p → 97 ≤ t k ∧ t k ≤ 122 := fun k h1 h2 => (smlO_in (sm_in h1 h2)).2
def sqL : Int64 := (fiveL 115 113 117 97 * 27 + 114 - 97 + 1) * 27 + 101 - 97 + 1
theorem w_sum {t : Nat → Nat} {a b : Nat} (ht : ∀ k, a ≤ k → k < b → 97 ≤ t k ∧ t k ≤ 122) : lg_cmp (lN (wcd t a b)) (fiveL 115 117 109 0) = 0 ↔ wordL t a b = [115, 117, 109] := w_cmp _ _ (by decide) (by decide) (by decide) ht
theorem w_most {t : Nat → Nat} {a b : Nat} (ht : ∀ k, a ≤ k → k < b → 97 ≤ t k ∧ t k ≤ 122) : lg_cmp (lN (wcd t a b)) (fiveL 109 111 115 116) = 0 ↔ wordL t a b = [109, 111, 115, 116] := w_cmp _ _ (by decide) (by decide) (by decide) ht
theorem w_square {t : Nat → Nat} {a b : Nat} (ht : ∀ k, a ≤ k → k < b → 97 ≤ t k ∧ t k ≤ 122) : lg_cmp (lN (wcd t a b)) sqL = 0 ↔ wordL t a b = [115, 113, 117, 97, 114, 101] := w_cmp _ _ (by decide) (by decide) (by decide) ht
theorem w_like {t : Nat → Nat} {a b : Nat} (ht : ∀ k, a ≤ k → k < b → 97 ≤ t k ∧ t k ≤ 122) : lg_cmp (lN (wcd t a b)) (fiveL 108 105 107 101) = 0 ↔ wordL t a b = [108, 105, 107, 101] := w_cmp _ _ (by decide) (by decide) (by decide) ht
theorem w_odd {t : Nat → Nat} {a b : Nat} (ht : ∀ k, a ≤ k → k < b → 97 ≤ t k ∧ t k ≤ 122) : lg_cmp (lN (wcd t a b)) (fiveL 111 100 100 0) = 0 ↔ wordL t a b = [111, 100, 100] := w_cmp _ _ (by decide) (by decide) (by decide) ht
theorem w_cap {t : Nat → Nat} {a b : Nat} (ht : ∀ k, a ≤ k → k < b → 97 ≤ t k ∧ t k ≤ 122) : lg_cmp (lN (wcd t a b)) (fiveL 99 97 112 0) = 0 ↔ wordL t a b = [99, 97, 112] := w_cmp _ _ (by decide) (by decide) (by decide) ht
theorem w_aim {t : Nat → Nat} {a b : Nat} (ht : ∀ k, a ≤ k → k < b → 97 ≤ t k ∧ t k ≤ 122) : lg_cmp (lN (wcd t a b)) (fiveL 97 105 109 0) = 0 ↔ wordL t a b = [97, 105, 109] := w_cmp _ _ (by decide) (by decide) (by decide) ht
theorem w_by {t : Nat → Nat} {a b : Nat} (ht : ∀ k, a ≤ k → k < b → 97 ≤ t k ∧ t k ≤ 122) : lg_cmp (lN (wcd t a b)) (fiveL 98 121 0 0) = 0 ↔ wordL t a b = [98, 121] := w_cmp _ _ (by decide) (by decide) (by decide) ht
theorem qClause_bad {t : Nat → Nat} {sz pa : Nat} {w : Nat → Int32} : ∀ e, qBody t sz w pa = .inl e → qClause t sz w pa = .inl e := by
  intro e h
  unfold qClause
  rw [h]
theorem cl_end {F1 A1 sz pa : Nat} {fa P1 : Int32} {t : Nat → Nat} {w W : Nat → Int32} (h1 : fltP 0 fa F1 P1 A1 sz (qBody t sz w pa) (fun a => A1 = a.1 ∧ W = a.2)) {F2 A2 : Nat} {P2 : Int32} (h2 : fltP F1 P1 F2 P2 A2 sz (qWant t sz 59 A1) (fun a => A2 = a)) : fltP 0 fa F2 P2 A2 sz (qClause t sz w pa) (fun a => A2 = a.1 ∧ W = a.2) := by
  refine flt_seq h1 h2 qClause_bad (fun a ha ho => ?_)
  obtain ⟨o1, o2⟩ := ho
  have hq : qClause t sz w pa = (match qWant t sz 59 A1 with
    | .inl e => .inl e
    | .inr p2 => .inr (p2, W)) := by
    unfold qClause
    rw [ha, o1, o2]
    rfl
  rw [hq]
  exact ⟨fun e he => by rw [he], fun b hb hok => ⟨_, by rw [hb], hok, rfl⟩⟩
theorem qTermN_map {F A sz k lo hi p V : Nat} {fa P : Int32} {t : Nat → Nat} {w : Nat → Int32} (h : fltP 0 fa F P A sz (qNum t sz lo hi p) (fun a => V = a.1 ∧ A = a.2)) : fltP 0 fa F P A sz (qTermN t sz w k lo hi p) (fun a => A = a.1 ∧ upd w (1 + k) (nI V) = a.2) := by
  refine flt_map h (fun e he => ?_) (fun a ha ho => ?_)
  · unfold qTermN; rw [he]
  · exact ⟨_, by unfold qTermN; rw [ha], ho.2, by rw [ho.1]⟩
theorem qBody_e {t : Nat → Nat} {sz p : Nat} {w : Nat → Int32} (h : sm t sz p = p) : qBody t sz w p = .inl (1, p) := by
  unfold qBody
  rw [if_neg (by omega), if_neg (by omega), h]
  unfold qTerm
  have : wordL t p p = [] := by simp [wordL]
  rw [this]
  simp
theorem qBody_l {t : Nat → Nat} {sz p : Nat} {w : Nat → Int32} (h : sm t sz p = p + 1) (hl : t p < 105) : qBody t sz w p = qLetter t sz w (t p - 97) (sm t sz p) := by
  unfold qBody
  rw [if_pos ⟨h, hl⟩, h]
theorem qBody_p {t : Nat → Nat} {sz p : Nat} {w : Nat → Int32} (h : sm t sz p = p + 2) (hl : t p < 105) (hl2 : t (p + 1) < 105) : qBody t sz w p = qPair t sz w (t p - 97) (t (p + 1) - 97) p (p + 2) := by
  unfold qBody
  rw [if_neg (by omega), if_pos ⟨h, hl, hl2⟩]
theorem qBody_t {t : Nat → Nat} {sz p : Nat} {w : Nat → Int32} (h : ¬ (sm t sz p = p + 1 ∧ t p < 105) ∧ ¬ (sm t sz p = p + 2 ∧ t p < 105 ∧ t (p + 1) < 105)) : qBody t sz w p = qTerm t sz w p (sm t sz p) := by
  unfold qBody
  rw [if_neg h.1, if_neg h.2]
