/-! the reference's signs as numbers -/
theorem oI_some (v : Nat) : oI (some v) = nI v := rfl
theorem oI_none : oI none = -1 := rfl
/-- a sign, if there is one, is small -/
def smallO (o : Option Nat) : Prop := ∀ v, o = some v → v < 65536
theorem smallO_here {t : Nat → Nat} {sz p : Nat} (ht : ∀ k, t k < 256) : smallO (hereO t sz p) := by
  intro v h
  have := (hereO_some h).2
  have := ht p
  omega
theorem oI_eq {o : Option Nat} {v : Nat} (ho : smallO o) (hv : v < 2147483648) : oI o = nI v ↔ o = some v := by
  cases o with
  | none =>
    constructor
    · intro h
      have h2 : (-1 : Int32).toInt = (nI v).toInt := congrArg Int32.toInt h
      rw [nI_toInt (by omega)] at h2
      have h3 : (-1 : Int32).toInt = -1 := by decide
      omega
    · intro h; cases h
  | some u =>
    have := ho u rfl
    rw [oI_some, nI_eq (by omega) (by omega)]
    constructor
    · intro h; rw [h]
    · intro h; exact Option.some.inj h
def rngO (lo hi : Nat) (o : Option Nat) : Bool := match o with
  | some v => decide (lo ≤ v) && decide (v ≤ hi)
  | none => false
theorem inB_o {o : Option Nat} {lo hi : Nat} (ho : smallO o) (hl : lo < 2147483648) (hh : hi < 2147483648) : inB (oI o).toInt64 (lN lo) (lN hi) = rngO lo hi o := by
  cases o with
  | none =>
    unfold inB
    have h1 : ¬ lN lo ≤ (oI none).toInt64 := by
      rw [Int64.le_iff_toInt_le, lN_toInt (by omega), oI_none]
      have h3 : (-1 : Int32).toInt64.toInt = -1 := by decide
      omega
    rw [decide_eq_false h1]
    rfl
  | some v =>
    have := ho v rfl
    rw [oI_some]
    exact inB_n (by omega) hl hh
theorem skA_stop {t : Nat → Nat} {sz p : Nat} (h : ¬ hereO t sz p = some 32) : ∀ n, skA t sz n p = p
  | 0 => rfl
  | n + 1 => by unfold skA; rw [if_neg h]
theorem sk_stop {t : Nat → Nat} {sz p : Nat} (h : ¬ hereO t sz p = some 32) : sk t sz p = p := skA_stop h _
theorem sk_step {t : Nat → Nat} {sz p : Nat} (h : hereO t sz p = some 32) : sk t sz p = sk t sz (p + 1) := by
  have hp := (hereO_some h).1
  unfold sk
  rw [show sz - p = (sz - (p + 1)) + 1 by omega]
  show (if hereO t sz p = some 32 then skA t sz (sz - (p + 1)) (p + 1) else p) = _
  rw [if_pos h]
theorem smA_stop {t : Nat → Nat} {sz p : Nat} (h : smlO (hereO t sz p) = false) : ∀ n, smA t sz n p = p
  | 0 => rfl
  | n + 1 => by unfold smA; rw [if_neg (by rw [h]; decide)]
theorem sm_stop {t : Nat → Nat} {sz p : Nat} (h : smlO (hereO t sz p) = false) : sm t sz p = p := smA_stop h _
theorem sm_step {t : Nat → Nat} {sz p : Nat} (h : smlO (hereO t sz p) = true) : sm t sz p = sm t sz (p + 1) := by
  have hp := (smlO_in h).1
  unfold sm
  rw [show sz - p = (sz - (p + 1)) + 1 by omega]
  show (if smlO (hereO t sz p) = true then smA t sz (sz - (p + 1)) (p + 1) else p) = _
  rw [if_pos h]
/-- how a step of the reading ends: with the fault that there was, with a fault of its own, or well -/
def fltP (fl : Nat) (fa : Int32) (F : Nat) (P : Int32) (A sz : Nat) {α : Type} (r : PR α) (ok : α → Prop) : Prop :=
  A ≤ sz ∧ (¬ fl = 0 → F = fl ∧ P = fa) ∧ (fl = 0 → match r with
    | .inl e => F = e.1 ∧ P = nI e.2 ∧ 0 < e.1
    | .inr a => F = 0 ∧ P = fa ∧ ok a)
/-- a sign less '0', between bounds -/
theorem fig_in {o : Option Nat} {least : Nat} (ho : smallO o) (hl : least < 10) : inB (oI o - nI 48).toInt64 (nI least).toInt64 9 = rngO (48 + least) 57 o := by
  have h9 : (9 : Int64).toInt = 9 := by decide
  have hln : (nI least).toInt64.toInt = (least : Int) := by rw [Int32.toInt_toInt64, nI_toInt (by omega)]
  have key : ∀ z : Int32, inB z.toInt64 (nI least).toInt64 9 = (decide ((least : Int) ≤ z.toInt) && decide (z.toInt ≤ 9)) := by
    intro z
    unfold inB
    simp only [Int64.le_iff_toInt_le, h9, hln, Int32.toInt_toInt64]
  rw [key]
  cases o with
  | none =>
    have : (oI none - nI 48).toInt = -49 := by decide
    rw [this]
    rw [decide_eq_false (by omega)]
    rfl
  | some v =>
    have hv := ho v rfl
    have : (oI (some v) - nI 48).toInt = (v : Int) - 48 := by rw [oI_some]; exact pk_sub_toInt (by omega) (by omega)
    rw [this]
    show _ = (decide (48 + least ≤ v) && decide (v ≤ 57))
    congr 1
    · exact decide_eq_decide.mpr (by omega)
    · exact decide_eq_decide.mpr (by omega)
theorem fig_ok {t : Nat → Nat} {sz pa least : Nat} (h : rngO (48 + least) 57 (hereO t sz pa) = true) : figO (hereO t sz pa) = true ∧ 48 + least ≤ t pa := by
  cases ho : hereO t sz pa with
  | none => rw [ho] at h; cases h
  | some v =>
    rw [ho] at h
    simp only [rngO, Bool.and_eq_true, decide_eq_true_eq] at h
    have := (hereO_some ho).2
    refine ⟨?_, by omega⟩
    simp only [figO, Bool.and_eq_true, decide_eq_true_eq]
    omega
theorem fig_no {t : Nat → Nat} {sz pa least : Nat} (h : rngO (48 + least) 57 (hereO t sz pa) = false) : ¬ (figO (hereO t sz pa) = true ∧ 48 + least ≤ t pa) := by
  intro q
  obtain ⟨h1, h2, h3⟩ := figO_in q.1
  have ho : hereO t sz pa = some (t pa) := by unfold hereO; rw [if_neg (by omega)]
  rw [ho] at h
  simp only [rngO, Bool.and_eq_false_iff, decide_eq_false_iff_not] at h
  omega
theorem inB_nn {a lo hi : Nat} (ha : a < 2147483648) (hl : lo < 2147483648) (hh : hi < 2147483648) : inB (nI a).toInt64 (nI lo).toInt64 (nI hi).toInt64 = (decide (lo ≤ a) && decide (a ≤ hi)) := by
  rw [nI_l hl, nI_l hh]
  exact inB_n ha hl hh
theorem flt_bad {fl F1 A1 sz : Nat} {fa P1 : Int32} {α β : Type} {r : PR α} {q : PR β} {ok : α → Prop} {ok2 : β → Prop} (h : fltP fl fa F1 P1 A1 sz r ok) (hF : ¬ F1 = 0) (hq : ∀ e, r = .inl e → q = .inl e) : fltP fl fa F1 P1 A1 sz q ok2 := by
  obtain ⟨h1, h2, h3⟩ := h
  refine ⟨h1, h2, fun e => ?_⟩
  have h3 := h3 e
  cases r with
  | inl x => rw [hq x rfl]; exact h3
  | inr a => exact absurd h3.1 hF
theorem flt_good {fl F1 A1 sz : Nat} {fa P1 : Int32} {α : Type} {r : PR α} {ok : α → Prop} (h : fltP fl fa F1 P1 A1 sz r ok) (hF : F1 = 0) : fl = 0 ∧ P1 = fa ∧ ∃ a, r = .inr a ∧ ok a := by
  obtain ⟨h1, h2, h3⟩ := h
  by_cases hfl : fl = 0
  · have h3 := h3 hfl
    cases r with
    | inl x => have : 0 < x.1 := h3.2.2; have : F1 = x.1 := h3.1; omega
    | inr a => exact ⟨hfl, h3.2.1, a, rfl, h3.2.2⟩
  · have := (h2 hfl).1
    omega
theorem flt_ok {fl F A sz : Nat} {fa P : Int32} {α : Type} {r : PR α} {ok : α → Prop} (hA : A ≤ sz) (hfl : fl = 0) (hF : F = 0) (hP : P = fa) {a : α} (hr : r = .inr a) (ho : ok a) : fltP fl fa F P A sz r ok := by
  refine ⟨hA, fun h => absurd hfl h, fun _ => ?_⟩
  rw [hr]
  exact ⟨hF, hP, ho⟩
theorem flt_flt {fl F A sz : Nat} {fa P : Int32} {α : Type} {r : PR α} {ok : α → Prop} (hA : A ≤ sz) (hfl : fl = 0) {n p : Nat} (hr : r = .inl (n, p)) (hF : F = n) (hP : P = nI p) (hn : 0 < n) : fltP fl fa F P A sz r ok := by
  refine ⟨hA, fun h => absurd hfl h, fun _ => ?_⟩
  rw [hr]
  exact ⟨hF, hP, hn⟩
theorem qNum_bad {t : Nat → Nat} {sz lo hi pa : Nat} : ∀ e, qFig t sz 0 (sk t sz pa) = .inl e → qNum t sz lo hi pa = .inl e := by
  intro e h
  unfold qNum
  rw [h]
theorem qNum_1 {t : Nat → Nat} {sz lo hi pa v p : Nat} (h : qFig t sz 0 (sk t sz pa) = .inr (v, p)) (hf : figO (hereO t sz p) = false) : qNum t sz lo hi pa = if v < lo ∨ hi < v then .inl (2, sk t sz pa) else .inr (v, p) := by
  unfold qNum
  rw [h]
  exact if_neg (by rw [hf]; decide)
theorem qNum_2 {t : Nat → Nat} {sz lo hi pa v p : Nat} (h : qFig t sz 0 (sk t sz pa) = .inr (v, p)) (hf : figO (hereO t sz p) = true) : qNum t sz lo hi pa = if figO (hereO t sz (p + 1)) = true ∨ 10 * v + (t p - 48) < lo ∨ hi < 10 * v + (t p - 48) then .inl (2, sk t sz pa) else .inr (10 * v + (t p - 48), p + 1) := by
  unfold qNum
  rw [h]
  exact if_pos hf
theorem flt_F {fl F A sz : Nat} {fa P : Int32} {α : Type} {r : PR α} {ok : α → Prop} (h : fltP fl fa F P A sz r ok) (hfl : fl < 100) (hr : ∀ e, r = .inl e → e.1 < 100) : F < 100 := by
  obtain ⟨h1, h2, h3⟩ := h
  by_cases hz : fl = 0
  · have h3 := h3 hz
    cases r with
    | inl x => have := hr x rfl; have : F = x.1 := h3.1; omega
    | inr a => have : F = 0 := h3.1; omega
  · have := (h2 hz).1
    omega
theorem qFig_F {t : Nat → Nat} {sz least p : Nat} {e : Nat × Nat} (h : qFig t sz least p = .inl e) : e.1 < 100 := by
  unfold qFig at h
  split at h
  · cases h
  · cases h; simp
theorem qWant_F {t : Nat → Nat} {sz ch p : Nat} {e : Nat × Nat} (h : qWant t sz ch p = .inl e) : e.1 < 100 := by
  unfold qWant at h
  split at h
  · cases h
  · cases h; simp
theorem qNum_F {t : Nat → Nat} {sz lo hi p : Nat} {e : Nat × Nat} (h : qNum t sz lo hi p = .inl e) : e.1 < 100 := by
  unfold qNum at h
  split at h
  · next e' h' => cases h; exact qFig_F h'
  · split at h
    · split at h
      · cases h; simp
      · cases h
    · split at h
      · cases h; simp
      · cases h
def rEdgeTo (w : Nat → Int32) (c side : Nat) (dg : Nat → Nat) (n : Nat) : Nat → Int32 := fun k => if 6 + 40 * side + 5 * c ≤ k ∧ k < 6 + 40 * side + 5 * c + n then nI (dg (k - (6 + 40 * side + 5 * c))) else w k
theorem rEdgeTo_0 (w : Nat → Int32) (c side : Nat) (dg : Nat → Nat) : rEdgeTo w c side dg 0 = w := by
  funext k
  unfold rEdgeTo
  rw [if_neg (by omega)]
theorem rEdgeTo_s (w : Nat → Int32) (c side : Nat) (dg : Nat → Nat) (n : Nat) : upd (rEdgeTo w c side dg n) (6 + 40 * side + 5 * c + n) (nI (dg n)) = rEdgeTo w c side dg (n + 1) := by
  funext k
  unfold upd rEdgeTo
  by_cases hk : k = 6 + 40 * side + 5 * c + n
  · rw [if_pos hk, if_pos (by omega), show k - (6 + 40 * side + 5 * c) = n by omega]
  · rw [if_neg hk]
    by_cases h2 : 6 + 40 * side + 5 * c ≤ k ∧ k < 6 + 40 * side + 5 * c + n
    · rw [if_pos h2, if_pos (by omega)]
    · rw [if_neg h2, if_neg (by omega)]
theorem rEdgeTo_hi {w : Nat → Int32} {c side : Nat} {dg : Nat → Nat} {n : Nat} (hc : c < 8) (hs : side < 2) (hn : n ≤ 5) {x : Int32} : ∀ k, 158 ≤ k → rEdgeTo w c side dg n k = w k ∧ upd (rEdgeTo w c side dg n) (6 + 40 * side + 5 * c + n) x k = w k := by
  intro k hk
  unfold upd rEdgeTo
  rw [if_neg (by omega), if_neg (by omega)]
  exact ⟨rfl, rfl⟩
theorem qRun_all {t : Nat → Nat} {sz : Nat} : ∀ {n p : Nat}, (∀ i, i < n → figO (hereO t sz (p + i)) = true) → qRun t sz p n = n
  | 0, p, _ => rfl
  | n + 1, p, h => by
    unfold qRun
    rw [if_pos (show figO (hereO t sz p) = true from h 0 (by omega)), qRun_all (fun i hi => by rw [Nat.add_assoc, Nat.add_comm 1 i]; exact h (i + 1) (by omega))]
theorem qRun_stop {t : Nat → Nat} {sz : Nat} : ∀ {n p h : Nat}, h < n → (∀ i, i < h → figO (hereO t sz (p + i)) = true) → figO (hereO t sz (p + h)) = false → qRun t sz p n = h
  | 0, p, h, hn, _, _ => absurd hn (by omega)
  | n + 1, p, 0, hn, _, hf => by
    unfold qRun
    rw [if_neg (by rw [show p = p + 0 from rfl, hf]; decide)]
  | n + 1, p, h + 1, hn, ha, hf => by
    unfold qRun
    rw [if_pos (show figO (hereO t sz p) = true from ha 0 (by omega)), qRun_stop (n := n) (p := p + 1) (h := h) (by omega) (fun i hi => by rw [Nat.add_assoc, Nat.add_comm 1 i]; exact ha (i + 1) (by omega)) (by rw [Nat.add_assoc, Nat.add_comm 1 h]; exact hf)]
theorem qFig_0 {t : Nat → Nat} {sz p : Nat} {a : Nat × Nat} (h : qFig t sz 0 p = .inr a) : figO (hereO t sz p) = true ∧ a.1 = t p - 48 ∧ a.2 = p + 1 := by
  unfold qFig at h
  split at h
  · next hc => cases h; exact ⟨hc.1, rfl, rfl⟩
  · cases h
theorem qFig_1 {t : Nat → Nat} {sz p : Nat} {e : Nat × Nat} (h : qFig t sz 0 p = .inl e) : figO (hereO t sz p) = false ∧ e = (1, p) := by
  unfold qFig at h
  split at h
  · cases h
  · next hc =>
    cases h
    refine ⟨?_, rfl⟩
    cases hf : figO (hereO t sz p) with
    | false => rfl
    | true => exact absurd ⟨hf, (figO_in hf).2.1⟩ hc
theorem qEdge_F {t : Nat → Nat} {sz p : Nat} {e : Nat × Nat} (h : qEdge t sz p = .inl e) : e.1 < 100 := by
  unfold qEdge at h
  split at h
  · cases h
  · cases h; simp
