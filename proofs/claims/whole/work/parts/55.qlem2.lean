/-! how clauses end -/
/-- two steps, one behind the other -/
theorem flt_seq {fl F1 A1 F2 A2 sz : Nat} {fa P1 P2 : Int32} {α β γ : Type} {r1 : PR α} {r2 : PR β} {q : PR γ} {ok1 : α → Prop} {ok2 : β → Prop} {ok : γ → Prop} (h1 : fltP fl fa F1 P1 A1 sz r1 ok1) (h2 : fltP F1 P1 F2 P2 A2 sz r2 ok2)
    (hb : ∀ e, r1 = .inl e → q = .inl e) (hc : ∀ a, r1 = .inr a → ok1 a → (∀ e, r2 = .inl e → q = .inl e) ∧ (∀ b, r2 = .inr b → ok2 b → ∃ c, q = .inr c ∧ ok c)) : fltP fl fa F2 P2 A2 sz q ok := by
  obtain ⟨a1, a2, a3⟩ := h1
  obtain ⟨b1, b2, b3⟩ := h2
  refine ⟨b1, fun h => ?_, fun h => ?_⟩
  · obtain ⟨z1, z2⟩ := a2 h
    have := b2 (by omega)
    exact ⟨this.1.trans z1, this.2.trans z2⟩
  · have a3 := a3 h
    cases r1 with
    | inl e =>
      have a3 : F1 = e.1 ∧ P1 = nI e.2 ∧ 0 < e.1 := a3
      have := b2 (by omega)
      rw [hb e rfl]
      exact ⟨this.1.trans a3.1, this.2.trans a3.2.1, a3.2.2⟩
    | inr a =>
      have a3 : F1 = 0 ∧ P1 = fa ∧ ok1 a := a3
      obtain ⟨c1, c2⟩ := hc a rfl a3.2.2
      have b3 := b3 a3.1
      cases r2 with
      | inl e =>
        have b3 : F2 = e.1 ∧ P2 = nI e.2 ∧ 0 < e.1 := b3
        rw [c1 e rfl]
        exact b3
      | inr b =>
        have b3 : F2 = 0 ∧ P2 = P1 ∧ ok2 b := b3
        obtain ⟨d, d1, d2⟩ := c2 b rfl b3.2.2
        rw [d1]
        exact ⟨b3.1, b3.2.1.trans a3.2.1, d2⟩
/-- steps 1 to 4 of a letter's clause; what is known then -/
def ltOk (t : Nat → Nat) (sz : Nat) (w : Nat → Int32) (c pa : Nat) (W : Nat → Int32) (p4 : Nat) : Prop := ∃ p1 p2 p3, qEdge t sz pa = .inr p1 ∧ qWant t sz 47 (p1 + 5) = .inr p2 ∧ qEdge t sz p2 = .inr p3 ∧ qWant t sz 44 (p3 + 5) = .inr p4 ∧ W = rEdge (rEdge w c 0 (fun i => t (p1 + i) - 48)) c 1 (fun i => t (p3 + i) - 48)
theorem lt_1 {F3 A3 F9 A9 sz pa c : Nat} {fa P3 P9 : Int32} {t : Nat → Nat} {w W3 : Nat → Int32} (hs3 : fltP 0 fa F3 P3 A3 sz (qEdge t sz pa) (fun p => A3 = p + 5 ∧ W3 = rEdge w c 0 (fun i => t (p + i) - 48))) (hs9 : fltP F3 P3 F9 P9 A9 sz (qWant t sz 47 A3) (fun a => A9 = a)) :
    fltP 0 fa F9 P9 A9 sz (match qEdge t sz pa with
      | .inl e => .inl e
      | .inr p1 => qWant t sz 47 (p1 + 5)) (fun p2 => A9 = p2 ∧ ∃ p1, qEdge t sz pa = .inr p1 ∧ qWant t sz 47 (p1 + 5) = .inr p2 ∧ W3 = rEdge w c 0 (fun i => t (p1 + i) - 48)) := by
  refine flt_seq hs3 hs9 (fun e he => by rw [he]) (fun a ha ho => ?_)
  rw [ha]
  obtain ⟨o1, o2⟩ := ho
  rw [o1]
  exact ⟨fun e he => he, fun b hb hok => ⟨b, hb, hok, a, rfl, hb, o2⟩⟩
theorem lt_2 {fl F3 A3 F9 A9 sz pa : Nat} {fa P3 P9 : Int32} {t : Nat → Nat} {w W3 : Nat → Int32} {c : Nat} (hs3 : fltP fl fa F3 P3 A3 sz (qEdge t sz pa) (fun p => A3 = p + 5 ∧ W3 = rEdge w c 1 (fun i => t (p + i) - 48))) (hs9 : fltP F3 P3 F9 P9 A9 sz (qWant t sz 44 A3) (fun a => A9 = a)) :
    fltP fl fa F9 P9 A9 sz (match qEdge t sz pa with
      | .inl e => .inl e
      | .inr p1 => qWant t sz 44 (p1 + 5)) (fun p2 => A9 = p2 ∧ ∃ p1, qEdge t sz pa = .inr p1 ∧ qWant t sz 44 (p1 + 5) = .inr p2 ∧ W3 = rEdge w c 1 (fun i => t (p1 + i) - 48)) := by
  refine flt_seq hs3 hs9 (fun e he => by rw [he]) (fun a ha ho => ?_)
  rw [ha]
  obtain ⟨o1, o2⟩ := ho
  rw [o1]
  exact ⟨fun e he => he, fun b hb hok => ⟨b, hb, hok, a, rfl, hb, o2⟩⟩
/-- the first half went wrong -/
theorem lt_bad1 {F9 A9 sz pa c : Nat} {fa P9 : Int32} {t : Nat → Nat} {w : Nat → Int32} {ok1 : Nat → Prop} {ok : Nat × (Nat → Int32) → Prop} (h : fltP 0 fa F9 P9 A9 sz (match qEdge t sz pa with
      | .inl e => .inl e
      | .inr p1 => qWant t sz 47 (p1 + 5)) ok1) (hF : ¬ F9 = 0) : fltP 0 fa F9 P9 A9 sz (qLetter t sz w c pa) ok := by
  refine flt_bad h hF (fun e he => ?_)
  unfold qLetter
  cases h1 : qEdge t sz pa with
  | inl x => rw [h1] at he; cases he; rfl
  | inr p1 =>
    rw [h1] at he
    dsimp only at he ⊢
    rw [he]
/-- the second half, and the width -/
theorem lt_end {F28 A28 A9 sz pa c p1 : Nat} {fa P28 : Int32} {t : Nat → Nat} {w W3 W22 : Nat → Int32} {ok : Nat × (Nat → Int32) → Prop} (e1 : qEdge t sz pa = .inr p1) (e2 : qWant t sz 47 (p1 + 5) = .inr A9) (e3 : W3 = rEdge w c 0 (fun i => t (p1 + i) - 48))
    (h : fltP 0 fa F28 P28 A28 sz (match qEdge t sz A9 with
      | .inl e => .inl e
      | .inr p1 => qWant t sz 44 (p1 + 5)) (fun p2 => A28 = p2 ∧ ∃ p1, qEdge t sz A9 = .inr p1 ∧ qWant t sz 44 (p1 + 5) = .inr p2 ∧ W22 = rEdge W3 c 1 (fun i => t (p1 + i) - 48))) :
    (¬ F28 = 0 → ∀ Ak, Ak ≤ sz → fltP 0 fa F28 P28 Ak sz (qLetter t sz w c pa) ok) ∧ (F28 = 0 → P28 = fa ∧ ∀ (F52 A52 V52 : Nat) (P52 : Int32), fltP 0 fa F52 P52 A52 sz (qFig t sz 1 (sk t sz A28)) (fun a => V52 = a.1 ∧ A52 = a.2) → ∀ Wn : Nat → Int32, Wn = upd (upd W22 (86 + c) (nI V52)) 0 (upd W22 (86 + c) (nI V52) 0 ||| (nI 1 <<< (nI c &&& 31))) → (W22 0 = w 0) → (∀ (a : Nat × (Nat → Int32)), A52 = a.1 ∧ Wn = a.2 → ok a) → fltP 0 fa F52 P52 A52 sz (qLetter t sz w c pa) ok) := by
  constructor
  · intro hF Ak hAk
    have := flt_bad (q := qLetter t sz w c pa) (ok2 := ok) h hF (fun e he => by
      unfold qLetter
      rw [e1]
      dsimp only
      rw [e2]
      dsimp only
      cases h1 : qEdge t sz A9 with
      | inl x => rw [h1] at he; cases he; rfl
      | inr p3 =>
        rw [h1] at he
        dsimp only at he ⊢
        rw [he])
    exact ⟨hAk, this.2⟩
  · intro hF
    obtain ⟨-, e4, p4, -, e5, p3, e6, e7, e8⟩ := flt_good h hF
    refine ⟨e4, fun F52 A52 V52 P52 hs Wn hWn hw0 hok => ?_⟩
    have hq : qLetter t sz w c pa = (match qFig t sz 1 (sk t sz A28) with
        | .inl e => .inl e
        | .inr (v, p5) => .inr (p5, rKnow w c (fun i => t (p1 + i) - 48) (fun i => t (p3 + i) - 48) v)) := by
      unfold qLetter
      rw [e1]
      dsimp only
      rw [e2]
      dsimp only
      rw [e6]
      dsimp only
      rw [e7, e5]
      rfl
    obtain ⟨b1, b2, b3⟩ := hs
    refine ⟨b1, b2, fun z => ?_⟩
    have b3 := b3 z
    rw [hq]
    cases h1 : qFig t sz 1 (sk t sz A28) with
    | inl x => rw [h1] at b3; exact b3
    | inr y =>
      obtain ⟨v, p5⟩ := y
      rw [h1] at b3
      have b3 : F52 = 0 ∧ P52 = fa ∧ V52 = v ∧ A52 = p5 := b3
      refine ⟨b3.1, b3.2.1, hok _ ⟨b3.2.2.2, ?_⟩⟩
      rw [hWn, b3.2.2.1, e8, e3]
      unfold rKnow
      rw [e8, e3] at hw0
      congr 2
      rw [pk_un (by omega), hw0]
theorem rEdge_0 {w : Nat → Int32} {c side : Nat} {dg : Nat → Nat} : rEdge w c side dg 0 = w 0 := by
  unfold rEdge
  rw [if_neg (by omega)]
theorem qLetter_F {t : Nat → Nat} {sz c p : Nat} {w : Nat → Int32} {e : Nat × Nat} (h : qLetter t sz w c p = .inl e) : e.1 < 100 := by
  unfold qLetter at h
  split at h
  · next e' h' => cases h; exact qEdge_F h'
  · split at h
    · next e' h' => cases h; exact qWant_F h'
    · split at h
      · next e' h' => cases h; exact qEdge_F h'
      · split at h
        · next e' h' => cases h; exact qWant_F h'
        · split at h
          · next e' h' => cases h; exact qFig_F h'
          · cases h
