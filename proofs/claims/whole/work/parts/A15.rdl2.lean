/-! steps of reading, one behind the other -/
def pb {α β : Type} (r : PR α) (f : α → PR β) : PR β := match r with
  | .inl e => .inl e
  | .inr a => f a
theorem pb_r {α β : Type} {r : PR α} {f : α → PR β} {a : α} (h : r = .inr a) : pb r f = f a := by rw [h]; rfl
theorem flt_chain {fl F1 A1 F2 A2 sz : Nat} {fa P1 P2 : Int32} {α β : Type} {r1 : PR α} {r2 : PR β} {ok1 : α → Prop} {ok2 : β → Prop} {f : α → PR β} (h1 : fltP fl fa F1 P1 A1 sz r1 ok1) (h2 : fltP F1 P1 F2 P2 A2 sz r2 ok2) (hf : ∀ a, ok1 a → f a = r2) : fltP fl fa F2 P2 A2 sz (pb r1 f) (fun b => ok2 b ∧ ∃ a, r1 = .inr a ∧ ok1 a ∧ f a = .inr b) := by
  refine flt_seq h1 h2 (fun e he => by rw [he]; rfl) (fun a ha ho => ⟨fun e he => ?_, fun b hb hob => ⟨b, ?_, hob, a, ha, ho, ?_⟩⟩)
  · rw [pb_r ha, hf a ho]; exact he
  · rw [pb_r ha, hf a ho]; exact hb
  · rw [hf a ho]; exact hb
/-- a clause: its body, the ';' -/
def qSemi (t : Nat → Nat) (sz : Nat) (r : PR (Nat × (Nat → Int32))) : PR (Nat × (Nat → Int32)) := match r with
  | .inl e => .inl e
  | .inr (p1, w1) => match qWant t sz 59 p1 with
    | .inl e => .inl e
    | .inr p2 => .inr (p2, w1)
theorem qClause_semi {t : Nat → Nat} {sz p : Nat} {w : Nat → Int32} : qClause t sz w p = qSemi t sz (qBody t sz w p) := rfl
def lcCh (t : Nat → Nat) (sz pa : Nat) : PR Nat := pb (pb (pb (pb (pb (qEdge t sz pa) (fun p1 => qWant t sz 47 (p1 + 5))) (fun p2 => qEdge t sz p2)) (fun p3 => qWant t sz 44 (p3 + 5))) (fun p4 => qFig t sz 1 (sk t sz p4))) (fun a => qWant t sz 59 a.2)
theorem lc_inl {t : Nat → Nat} {sz pa c : Nat} {w : Nat → Int32} {e : Nat × Nat} (h : lcCh t sz pa = .inl e) : qSemi t sz (qLetter t sz w c pa) = .inl e := by
  unfold lcCh pb at h
  unfold qSemi qLetter
  cases h1 : qEdge t sz pa with
  | inl e1 => rw [h1] at h; have h : (Sum.inl e1 : PR Nat) = .inl e := h; cases h; rfl
  | inr p1 =>
    rw [h1] at h
    dsimp only at h ⊢
    cases h2 : qWant t sz 47 (p1 + 5) with
    | inl e1 => rw [h2] at h; have h : (Sum.inl e1 : PR Nat) = .inl e := h; cases h; rfl
    | inr p2 =>
      rw [h2] at h
      dsimp only at h ⊢
      cases h3 : qEdge t sz p2 with
      | inl e1 => rw [h3] at h; have h : (Sum.inl e1 : PR Nat) = .inl e := h; cases h; rfl
      | inr p3 =>
        rw [h3] at h
        dsimp only at h ⊢
        cases h4 : qWant t sz 44 (p3 + 5) with
        | inl e1 => rw [h4] at h; have h : (Sum.inl e1 : PR Nat) = .inl e := h; cases h; rfl
        | inr p4 =>
          rw [h4] at h
          dsimp only at h ⊢
          cases h5 : qFig t sz 1 (sk t sz p4) with
          | inl e1 => rw [h5] at h; have h : (Sum.inl e1 : PR Nat) = .inl e := h; cases h; rfl
          | inr a =>
            obtain ⟨v, p5⟩ := a
            rw [h5] at h
            dsimp only at h ⊢
            rw [h]
theorem lc_inr {t : Nat → Nat} {sz pa c p1 p2 p3 p4 v p5 p6 : Nat} {w : Nat → Int32} (h1 : qEdge t sz pa = .inr p1) (h2 : qWant t sz 47 (p1 + 5) = .inr p2) (h3 : qEdge t sz p2 = .inr p3) (h4 : qWant t sz 44 (p3 + 5) = .inr p4) (h5 : qFig t sz 1 (sk t sz p4) = .inr (v, p5)) (h6 : qWant t sz 59 p5 = .inr p6) : qSemi t sz (qLetter t sz w c pa) = .inr (p6, rKnow w c (fun i => t (p1 + i) - 48) (fun i => t (p3 + i) - 48) v) := by
  unfold qSemi qLetter
  rw [h1]; dsimp only
  rw [h2]; dsimp only
  rw [h3]; dsimp only
  rw [h4]; dsimp only
  rw [h5]; dsimp only
  rw [h6]
theorem dgt_vN {t : Nat → Nat} {sz p : Nat} (h : ∀ i, i < 5 → figO (hereO t sz (p + i)) = true) : ∀ i, i < 5 → dgt (vN t p 5) i = t (p + i) - 48 := by
  have f0 := figO_in (h 0 (by omega))
  have f1 := figO_in (h 1 (by omega))
  have f2 := figO_in (h 2 (by omega))
  have f3 := figO_in (h 3 (by omega))
  have f4 := figO_in (h 4 (by omega))
  have e : vN t p 5 = 10 * (10 * (10 * (10 * (10 * 0 + (t (p + 0) - 48)) + (t (p + 1) - 48)) + (t (p + 2) - 48)) + (t (p + 3) - 48)) + (t (p + 4) - 48) := rfl
  generalize vN t p 5 = V at e
  intro i hi
  unfold dgt
  match i, hi with
  | 0, _ => have z : dv V (4 - 0) = V / 10 / 10 / 10 / 10 := rfl; rw [z]; omega
  | 1, _ => have z : dv V (4 - 1) = V / 10 / 10 / 10 := rfl; rw [z]; omega
  | 2, _ => have z : dv V (4 - 2) = V / 10 / 10 := rfl; rw [z]; omega
  | 3, _ => have z : dv V (4 - 3) = V / 10 := rfl; rw [z]; omega
  | 4, _ => have z : dv V (4 - 4) = V := rfl; rw [z]; omega
theorem rEdge_cg {w : Nat → Int32} {c s : Nat} {f g : Nat → Nat} (h : ∀ i, i < 5 → f i = g i) : rEdge w c s f = rEdge w c s g := by
  funext k
  unfold rEdge
  by_cases hk : 6 + 40 * s + 5 * c ≤ k ∧ k < 6 + 40 * s + 5 * c + 5
  · rw [if_pos hk, if_pos hk, h _ (by omega)]
  · rw [if_neg hk, if_neg hk]
theorem rKnow_cg {w : Nat → Int32} {c z : Nat} {f g f2 g2 : Nat → Nat} (h : ∀ i, i < 5 → f i = g i) (h2 : ∀ i, i < 5 → f2 i = g2 i) : rKnow w c f f2 z = rKnow w c g g2 z := by
  unfold rKnow
  rw [rEdge_cg h, rEdge_cg h2]
/-- the whole of a letter's clause -/
theorem lc_all {t : Nat → Nat} {sz pa c V1 A1 F1 F2 A2 V3 A3 F3 F4 A4 V5 A5 F5 F6 A6 : Nat} {fa P1 P2 P3 P4 P5 P6 : Int32} {w : Nat → Int32}
    (h1 : fltP 0 fa F1 P1 A1 sz (qEdge t sz pa) (fun p => A1 = p + 5 ∧ V1 = vN t p 5 ∧ ∀ i, i < 5 → figO (hereO t sz (p + i)) = true))
    (h2 : fltP F1 P1 F2 P2 A2 sz (qWant t sz 47 A1) (fun a => A2 = a))
    (h3 : fltP F2 P2 F3 P3 A3 sz (qEdge t sz A2) (fun p => A3 = p + 5 ∧ V3 = vN t p 5 ∧ ∀ i, i < 5 → figO (hereO t sz (p + i)) = true))
    (h4 : fltP F3 P3 F4 P4 A4 sz (qWant t sz 44 A3) (fun a => A4 = a))
    (h5 : fltP F4 P4 F5 P5 A5 sz (qFig t sz 1 (sk t sz A4)) (fun a => V5 = a.1 ∧ A5 = a.2))
    (h6 : fltP F5 P5 F6 P6 A6 sz (qWant t sz 59 A5) (fun a => A6 = a)) :
    fltP 0 fa F6 P6 A6 sz (qSemi t sz (qLetter t sz w c pa)) (fun a => A6 = a.1 ∧ rKnow w c (dgt V1) (dgt V3) V5 = a.2) := by
  have g2 := flt_chain (f := fun p1 => qWant t sz 47 (p1 + 5)) h1 h2 (fun a ha => by rw [ha.1])
  have g3 := flt_chain (f := fun p2 => qEdge t sz p2) g2 h3 (fun a ha => by rw [ha.1])
  have g4 := flt_chain (f := fun p3 => qWant t sz 44 (p3 + 5)) g3 h4 (fun a ha => by rw [ha.1.1])
  have g5 := flt_chain (f := fun p4 => qFig t sz 1 (sk t sz p4)) g4 h5 (fun a ha => by rw [ha.1])
  have g6 := flt_chain (f := fun a : Nat × Nat => qWant t sz 59 a.2) g5 h6 (fun a ha => by rw [ha.1.2])
  refine flt_map g6 (fun e he => lc_inl he) (fun p6 hp ho => ?_)
  obtain ⟨o6, ⟨v, p5⟩, -, ⟨⟨o5, o5b⟩, p4, -, ⟨o4, p3, -, ⟨⟨o3, o3v, o3f⟩, p2, -, ⟨o2, p1, e1, ⟨o1, o1v, o1f⟩, e2⟩, e3⟩, e4⟩, e5⟩, e6⟩ := ho
  refine ⟨_, lc_inr e1 e2 e3 e4 e5 e6, o6, ?_⟩
  show rKnow w c (dgt V1) (dgt V3) V5 = rKnow w c (fun i => t (p1 + i) - 48) (fun i => t (p3 + i) - 48) v
  rw [o1v, o3v, show V5 = v from o5]
  exact rKnow_cg (dgt_vN o1f) (dgt_vN o3f)
