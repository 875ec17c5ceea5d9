/-! what a text makes of a row keeps its promise -/
theorem qRun_f {t : Nat → Nat} {sz : Nat} : ∀ n p, qRun t sz p n = n → ∀ i, i < n → figO (hereO t sz (p + i)) = true
  | 0, p, _, i, hi => by omega
  | n + 1, p, h, i, hi => by
    unfold qRun at h
    cases hf : figO (hereO t sz p) with
    | false => rw [hf] at h; cases h
    | true =>
      rw [hf, if_pos rfl] at h
      cases i with
      | zero => exact hf
      | succ i =>
        have := qRun_f (t := t) (sz := sz) n (p + 1) (by omega) i (by omega)
        rw [show p + (i + 1) = p + 1 + i by omega]
        exact this
theorem qEdge_f {t : Nat → Nat} {sz p q : Nat} (h : qEdge t sz p = .inr q) : ∀ i, i < 5 → t (q + i) - 48 < 10 := by
  unfold qEdge at h
  split at h
  · rename_i hr
    cases h
    intro i hi
    have := figO_in (qRun_f 5 _ hr i hi)
    omega
  · cases h
theorem qNum_b {t : Nat → Nat} {sz lo hi p : Nat} {a : Nat × Nat} (h : qNum t sz lo hi p = .inr a) : lo ≤ a.1 ∧ a.1 ≤ hi := by
  unfold qNum at h
  split at h
  · cases h
  · split at h
    · split at h
      · cases h
      · cases h
        rename_i hn
        show lo ≤ 10 * _ + (t _ - 48) ∧ 10 * _ + (t _ - 48) ≤ hi
        omega
    · split at h
      · cases h
      · cases h
        rename_i hn
        omega
theorem qLetter_ok {t : Nat → Nat} {sz c p : Nat} {v : Nat → Int32} {a : Nat × (Nat → Int32)} (hv : rowOK v) (hc : c < 8) (h : qLetter t sz v c p = .inr a) : rowOK a.2 := by
  unfold qLetter at h
  split at h
  · cases h
  · rename_i p1 e1
    split at h
    · cases h
    · split at h
      · cases h
      · rename_i p3 e3
        split at h
        · cases h
        · split at h
          · cases h
          · cases h
            exact hv.know hc (qEdge_f e1) (qEdge_f e3)
theorem qPair_ok {t : Nat → Nat} {sz c d f p : Nat} {v : Nat → Int32} {a : Nat × (Nat → Int32)} (hv : rowOK v) (hc : c < 8) (hd : d < 8) (h : qPair t sz v c d f p = .inr a) : rowOK a.2 := by
  unfold qPair at h
  split at h
  · rename_i hk
    rw [Bool.and_eq_true] at hk
    split at h
    · cases h
    · split at h
      · split at h
        · cases h
        · rename_i e
          have := (qNum_b e).2
          cases h
          exact hv.gap hc hd (Or.inr (by show 80 ≤ 100 - _ ∧ 100 - _ ≤ 120; omega)) hk.1 hk.2
      · split at h
        · cases h
        · rename_i e
          have := (qNum_b e).2
          cases h
          exact hv.gap hc hd (Or.inr (by show 80 ≤ 100 + _ ∧ 100 + _ ≤ 120; omega)) hk.1 hk.2
  · cases h
theorem qTermN_ok {t : Nat → Nat} {sz k lo p : Nat} {v : Nat → Int32} {a : Nat × (Nat → Int32)} (hv : rowOK v) (hk : k < 5) (h : qTermN t sz v k lo (mostN k) p = .inr a) : rowOK a.2 := by
  unfold qTermN at h
  split at h
  · cases h
  · rename_i e
    cases h
    exact hv.term hk (qNum_b e).2
theorem qBy_ok {t : Nat → Nat} {sz p : Nat} {v : Nat → Int32} {a : Nat × (Nat → Int32)} (hv : rowOK v) (h : qBy t sz v p = .inr a) : rowOK a.2 := by
  unfold qBy at h
  split at h
  · cases h
    exact hv.term (k := 4) (x := 0) (by decide) (by decide)
  · split at h
    · cases h
      exact hv.term (k := 4) (x := 1) (by decide) (by decide)
    · split at h
      · cases h
        exact hv.term (k := 4) (x := 2) (by decide) (by decide)
      · cases h
theorem qTerm_ok {t : Nat → Nat} {sz p q : Nat} {v : Nat → Int32} {a : Nat × (Nat → Int32)} (hv : rowOK v) (h : qTerm t sz v p q = .inr a) : rowOK a.2 := by
  unfold qTerm at h
  split at h
  · exact qTermN_ok (k := 0) hv (by decide) h
  · split at h
    · exact qTermN_ok (k := 1) hv (by decide) h
    · split at h
      · exact qTermN_ok (k := 2) hv (by decide) h
      · split at h
        · exact qTermN_ok (k := 3) hv (by decide) h
        · split at h
          · exact qBy_ok hv h
          · cases h
theorem qBody_ok {t : Nat → Nat} {sz p : Nat} {v : Nat → Int32} {a : Nat × (Nat → Int32)} (hv : rowOK v) (h : qBody t sz v p = .inr a) : rowOK a.2 := by
  unfold qBody at h
  split at h
  · rename_i q
    exact qLetter_ok hv (by omega) h
  · split at h
    · rename_i q
      exact qPair_ok hv (by omega) (by omega) h
    · exact qTerm_ok hv h
theorem qClause_ok {t : Nat → Nat} {sz p : Nat} {v : Nat → Int32} {a : Nat × (Nat → Int32)} (hv : rowOK v) (h : qClause t sz v p = .inr a) : rowOK a.2 := by
  unfold qClause at h
  split at h
  · cases h
  · rename_i e
    split at h
    · cases h
    · cases h
      have hb := qBody_ok hv e
      exact hb
theorem qAll_ok {t : Nat → Nat} {sz : Nat} : ∀ (f n : Nat) (v : Nat → Int32) (p : Nat) (a : Nat × (Nat → Int32)), rowOK v → qAll t sz f n v p = .inr a → rowOK a.2
  | 0, n, v, p, a, hv, h => by unfold qAll at h; cases h; exact hv
  | f + 1, n, v, p, a, hv, h => by
    unfold qAll at h
    split at h
    · cases h; exact hv
    · split at h
      · cases h
      · rename_i e
        exact qAll_ok f (n + 1) _ _ a (qClause_ok hv e) h
theorem op_tell {w r2 W Wc : Nat → Int32} {t : Nat → Nat} {sz u pc fi u2 f2 c2 U n2 F F' : Nat} {rh rh2 : Nat → Nat → Int32} {V V' P P' : Int32} (h : core w pc fi rh) (hC : (V, r2, u2, f2, c2, rh2) = if F = 0 then deedC (cpRow w 0 19) u fi pc rh (nI n2) Wc else stayC (cpRow w 0 19) u fi pc rh ((-10) - nI F)) (hs : rdP t sz (cpRow w 0 19) F P n2 Wc) (hR : tellP t sz pc w V' F' P' U W) : stepP w u V V' r2 W u2 f2 c2 U rh2 ∧ P = P' := by
  unfold rdP at hs
  unfold tellP at hR
  cases hq : qTell t sz (cpRow w 0 19) with
  | inl e =>
    rw [hq] at hs hR
    obtain ⟨s1, s2, s3⟩ := hs
    obtain ⟨r1, r2', r3, r4, r5, r6⟩ := hR
    rw [if_neg (by omega)] at hC
    unfold stayC at hC
    injection hC with e1 hC
    injection hC with e2 hC
    injection hC with e3 hC
    injection hC with e4 hC
    injection hC with e5 e6
    subst e3 e4 e5 e6 r4
    obtain ⟨p1, p2, p3, p4⟩ := h
    refine ⟨⟨by rw [e1, r1, s1], rfl, fun k hk => by rw [e2]; exact ((agr_cp w (by omega)) k hk).symm.trans (r6 k (by omega)).symm, ⟨fun j q1 q2 k hk => ?_, fun j q => ?_, p3, p4⟩, fun k q1 q2 => r6 k q2, Or.inl ⟨rfl, fun k hk => (r6 k (by omega)).symm⟩⟩, by rw [s2, r3]⟩
    · rw [r6 _ (by omega)]; exact p1 j q1 q2 k hk
    · exact rowOK_c (p2 j q) (fun k hk => r6 _ (by omega))
  | inr a =>
    rw [hq] at hs hR
    obtain ⟨s1, s2, s3, s4⟩ := hs
    obtain ⟨r1, r2', r3, r4, r5⟩ := hR
    rw [if_pos s1, s3, s4] at hC
    have hok : rowOK a.2 := qAll_ok _ _ _ _ _ (rowOK_c h.row (fun k hk => ((agr_cp w (by omega)) k hk).symm)) hq
    have hW1 : ∀ k, 158 ≤ k → k < 2686 → W k = w (k - 158) := fun k q1 q2 => by rw [r5 k (by omega), if_neg (by omega), if_pos q2]
    unfold deedC at hC
    injection hC with e1 hC
    injection hC with e2 hC
    injection hC with e3 hC
    obtain ⟨p1, p2, p3, p4⟩ := h
    obtain ⟨a1, a2, a3, a4⟩ := deed_past p1 p3 p4 (agr_cp w (by omega)) hC hW1
    have hag : agr a.2 W := fun k hk => by rw [r5 k (by omega), if_pos hk]
    refine ⟨⟨by rw [e1, r1], by rw [r4, a1]; rfl, by rw [e2]; exact hag, ⟨a4, by rw [a1]; exact deed_rows p2 p4 hW1 (rowOK_c hok (fun k hk => (hag k hk).symm)), a2, a3⟩, fun k q1 q2 => by rw [r5 k q2, if_neg (by omega), if_neg (by omega)], Or.inr e3⟩, by rw [s2, r3]⟩
/-! drift -/
theorem nxIt_add (nx : Nat → Nat) (s : Nat) : ∀ a b, nxIt nx (a + b) s = nxIt nx a (nxIt nx b s)
  | 0, b => by rw [Nat.zero_add]; rfl
  | a + 1, b => by
    rw [show a + 1 + b = (a + b) + 1 by omega]
    show nx (nxIt nx (a + b) s) = nx (nxIt nx a (nxIt nx b s))
    rw [nxIt_add nx s a b]
theorem edF_d {nx : Nat → Nat} {rn : Nat → Nat → Nat} (hrn : ∀ s n, 0 < n → rn s n < n) (s : Nat) {i : Nat} (hi : i < 5) : dgt (edF nx rn s 5) i = rn (nxIt nx (i + 1) s) 5 := by
  have h1 := hrn (nxIt nx 1 s) 5 (by omega)
  have h2 := hrn (nxIt nx 2 s) 5 (by omega)
  have h3 := hrn (nxIt nx 3 s) 5 (by omega)
  have h4 := hrn (nxIt nx 4 s) 5 (by omega)
  have h5 := hrn (nxIt nx 5 s) 5 (by omega)
  have e : edF nx rn s 5 = 10 * (10 * (10 * (10 * (10 * 0 + rn (nxIt nx 1 s) 5) + rn (nxIt nx 2 s) 5) + rn (nxIt nx 3 s) 5) + rn (nxIt nx 4 s) 5) + rn (nxIt nx 5 s) 5 := rfl
  match i, hi with
  | 0, _ => show edF nx rn s 5 / 10 / 10 / 10 / 10 % 10 = rn (nxIt nx 1 s) 5; omega
  | 1, _ => show edF nx rn s 5 / 10 / 10 / 10 % 10 = rn (nxIt nx 2 s) 5; omega
  | 2, _ => show edF nx rn s 5 / 10 / 10 % 10 = rn (nxIt nx 3 s) 5; omega
  | 3, _ => show edF nx rn s 5 / 10 % 10 = rn (nxIt nx 4 s) 5; omega
  | 4, _ => show edF nx rn s 5 % 10 = rn (nxIt nx 5 s) 5; omega
theorem chW_at {nx : Nat → Nat} {rn : Nat → Nat → Nat} (w : Nat → Int32) {c : Nat} (s : Nat) (hc : c < 8) : ∀ n, n ≤ 10 → ∀ k, chW nx rn w c s n k = if 6 + 5 * c ≤ k ∧ k < 6 + 5 * c + 5 ∧ k - (6 + 5 * c) < n then nI (rn (nxIt nx (k - (6 + 5 * c) + 1) s) 5) else if 46 + 5 * c ≤ k ∧ k < 46 + 5 * c + 5 ∧ k - (46 + 5 * c) + 5 < n then nI (rn (nxIt nx (k - (46 + 5 * c) + 6) s) 5) else w k
  | 0, _, k => by
    rw [if_neg (by omega), if_neg (by omega)]
    rfl
  | n + 1, hn, k => by
    show upd (chW nx rn w c s n) (6 + 40 * (n / 5) + 5 * c + n % 5) (nI (rn (nxIt nx (n + 1) s) 5)) k = _
    rw [upd_at, chW_at w s hc n (by omega) k]
    by_cases h5 : n < 5
    · rw [show n / 5 = 0 by omega, show n % 5 = n by omega]
      by_cases hk : k = 6 + 40 * 0 + 5 * c + n
      · rw [if_pos hk, if_pos (by omega), show k - (6 + 5 * c) = n by omega]
      · rw [if_neg hk]
        by_cases h1 : 6 + 5 * c ≤ k ∧ k < 6 + 5 * c + 5 ∧ k - (6 + 5 * c) < n
        · rw [if_pos h1, if_pos (by omega)]
        · rw [if_neg h1, if_neg (show ¬ (6 + 5 * c ≤ k ∧ k < 6 + 5 * c + 5 ∧ k - (6 + 5 * c) < n + 1) by omega), if_neg (by omega), if_neg (by omega)]
    · rw [show n / 5 = 1 by omega, show n % 5 = n - 5 by omega]
      by_cases hk : k = 6 + 40 * 1 + 5 * c + (n - 5)
      · rw [if_pos hk, if_neg (show ¬ (6 + 5 * c ≤ k ∧ k < 6 + 5 * c + 5 ∧ k - (6 + 5 * c) < n + 1) by omega), if_pos (by omega), show k - (46 + 5 * c) + 6 = n + 1 by omega]
      · rw [if_neg hk]
        by_cases h1 : 6 + 5 * c ≤ k ∧ k < 6 + 5 * c + 5 ∧ k - (6 + 5 * c) < n
        · rw [if_pos h1, if_pos (by omega)]
        · rw [if_neg h1, if_neg (show ¬ (6 + 5 * c ≤ k ∧ k < 6 + 5 * c + 5 ∧ k - (6 + 5 * c) < n + 1) by omega)]
          by_cases h2 : 46 + 5 * c ≤ k ∧ k < 46 + 5 * c + 5 ∧ k - (46 + 5 * c) + 5 < n
          · rw [if_pos h2, if_pos (by omega)]
          · rw [if_neg h2, if_neg (by omega)]
theorem chW_e {nx : Nat → Nat} {rn : Nat → Nat → Nat} (hrn : ∀ s n, 0 < n → rn s n < n) (w : Nat → Int32) {c : Nat} (s : Nat) (hc : c < 8) : chW nx rn w c s 10 = rEdge (rEdge w c 0 (dgt (edF nx rn s 5))) c 1 (dgt (edF nx rn (nxIt nx 5 s) 5)) := by
  funext k
  rw [chW_at w s hc 10 (Nat.le_refl _) k]
  unfold rEdge
  by_cases h2 : 46 + 5 * c ≤ k ∧ k < 46 + 5 * c + 5
  · rw [if_neg (by omega), if_pos (by omega), if_pos (by omega), edF_d hrn _ (by omega), ← nxIt_add, show k - (6 + 40 * 1 + 5 * c) + 1 + 5 = k - (46 + 5 * c) + 6 by omega]
  · rw [if_neg (show ¬ (6 + 40 * 1 + 5 * c ≤ k ∧ k < 6 + 40 * 1 + 5 * c + 5) by omega)]
    by_cases h1 : 6 + 5 * c ≤ k ∧ k < 6 + 5 * c + 5
    · rw [if_pos (by omega), if_pos (by omega), edF_d hrn _ (by omega), show k - (6 + 40 * 0 + 5 * c) + 1 = k - (6 + 5 * c) + 1 by omega]
    · rw [if_neg (by omega), if_neg (by omega), if_neg (by omega)]
theorem chN_e {nx : Nat → Nat} {rn : Nat → Nat → Nat} (hrn : ∀ s n, 0 < n → rn s n < n) (w : Nat → Int32) {c : Nat} (s : Nat) (hc : c < 8) : chN nx rn w s c = rKnow (memTo w 0) c (dgt (edF nx rn s 5)) (dgt (edF nx rn (nxIt nx 5 s) 5)) (rn (nx (nxIt nx 10 s)) 9 + 1) := by
  unfold chN rKnow
  rw [chW_e hrn _ s hc]
  congr 2
  rw [pk_un (by omega)]
  unfold rEdge
  rw [if_neg (by omega), if_neg (by omega)]
theorem rKnow_agr {r q : Nat → Int32} (e : agr r q) {c d : Nat} {g h : Nat → Nat} (hc : c < 8) : agr (rKnow r c g h d) (rKnow q c g h d) := by
  intro k hk
  unfold rKnow
  rw [upd_at, upd_at, upd_at, upd_at, e 0 (by omega)]
  by_cases h0 : k = 0
  · rw [if_pos h0, if_pos h0]
  · rw [if_neg h0, if_neg h0]
    by_cases h1 : k = 86 + c
    · rw [if_pos h1, if_pos h1]
    · rw [if_neg h1, if_neg h1]
      unfold rEdge
      rw [e k hk]
theorem dig9 : ∀ x, x < 9 → nI x - nI 4 + nI 100 = nI (96 + x) := by decide
/-- one step of drift -/
theorem ch_step {nx : Nat → Nat} {rn : Nat → Nat → Nat} (hrn : ∀ s n, 0 < n → rn s n < n) {r w : Nat → Int32} (e : agr w r) (hw : rowOK w) (s : Nat) : (chC nx rn r s).2 = (chanceR nx rn w s).2 ∧ agr (chC nx rn r s).1 (chanceR nx rn w s).1 ∧ deedW w (chanceR nx rn w s).1 ∧ rowOK (chanceR nx rn w s).1 := by
  have hC := hrn (nx s) 8 (by omega)
  have hC2 := hrn (nx (nx s)) 8 (by omega)
  have hX := hrn (nx (nx (nx s))) 9 (by omega)
  have hm : rowOK (memTo w 0) := rowOK_c hw (fun k hk => memTo_lo w hk)
  unfold chC chanceR
  rw [← e 0 (by omega)]
  cases hk : kn (w 0) (rn (nx s) 8) with
  | true =>
    rw [if_pos rfl, if_pos rfl]
    unfold chY
    rw [memTo_lo w (show 0 < 158 by omega)]
    cases hk2 : kn (w 0) (rn (nx (nx s)) 8) with
    | true =>
      rw [if_pos rfl, if_pos rfl]
      refine ⟨rfl, fun k hk9 => ?_, deedW_upd (by omega), ?_⟩
      · show upd r _ _ k = upd (memTo w 0) _ _ k
        rw [upd_at, upd_at, memTo_lo w hk9, e k hk9]
      · show rowOK (upd (memTo w 0) _ _)
        rw [dig9 _ hX]
        exact hm.gap hC hC2 (Or.inr (by omega)) (by rw [memTo_lo w (by omega)]; exact hk) (by rw [memTo_lo w (by omega)]; exact hk2)
    | false =>
      have e0 : upd (memTo w 0) (94 + 8 * rn (nx s) 8 + rn (nx (nx s)) 8) (memTo w 0 (94 + 8 * rn (nx s) 8 + rn (nx (nx s)) 8)) = memTo w 0 := by
        funext k
        rw [upd_at]
        by_cases q : k = 94 + 8 * rn (nx s) 8 + rn (nx (nx s)) 8
        · rw [if_pos q, q]
        · rw [if_neg q]
      rw [if_neg (by decide), if_neg (by decide), e0]
      refine ⟨rfl, fun k hk9 => ?_, ⟨fun k q1 q2 => memTo_hi w q1 q2, fun k q1 _ => memTo_im w q1⟩, hm⟩
      show r k = memTo w 0 k
      rw [memTo_lo w hk9, e k hk9]
  | false =>
    rw [if_neg (by decide), if_neg (by decide), chN_e hrn _ _ hC, ← nxIt_add]
    exact ⟨rfl, rKnow_agr (e.symm.trans (agr_mem w)) hC, deedW_know hC, hm.know hC (fun i _ => dgt_lt _ _) (fun i _ => dgt_lt _ _)⟩
theorem dr_all {nx : Nat → Nat} {rn : Nat → Nat → Nat} (hrn : ∀ s n, 0 < n → rn s n < n) {r w : Nat → Int32} {pc fi s : Nat} {rh : Nat → Nat → Int32} (e : agr w r) (h : core w pc fi rh) : ∀ n, (dC nx rn r s n).2 = (drI nx rn w s n).2 ∧ agr (dC nx rn r s n).1 (drI nx rn w s n).1 ∧ (mC nx rn fi pc rh r s n).2.1 = memN pc n ∧ core (drI nx rn w s n).1 (mC nx rn fi pc rh r s n).2.1 (mC nx rn fi pc rh r s n).1 (mC nx rn fi pc rh r s n).2.2 ∧ ∀ k, 2686 ≤ k → k < 3002 → (drI nx rn w s n).1 k = w k
  | 0 => ⟨rfl, e.symm, rfl, h, fun _ _ _ => rfl⟩
  | n + 1 => by
    obtain ⟨a1, a2, a3, ⟨p1, p2, p3, p4⟩, a5⟩ := dr_all hrn e h n
    obtain ⟨b1, b2, b3, b4⟩ := ch_step (nx := nx) hrn a2.symm (rowsOK.row p2) (drI nx rn w s n).2
    have hm : ((mC nx rn fi pc rh r s (n + 1)).1, (mC nx rn fi pc rh r s (n + 1)).2.1, (mC nx rn fi pc rh r s (n + 1)).2.2) = memR (mC nx rn fi pc rh r s n).1 (mC nx rn fi pc rh r s n).2.1 (mC nx rn fi pc rh r s n).2.2 (dC nx rn r s n).1 := rfl
    obtain ⟨c1, c2, c3, c4⟩ := deed_past p1 p3 p4 a2.symm hm b3.1
    have e1 : dC nx rn r s (n + 1) = chC nx rn (dC nx rn r s n).1 (drI nx rn w s n).2 := by
      show chC nx rn _ _ = _
      rw [a1]
    have e2 : drI nx rn w s (n + 1) = chanceR nx rn (drI nx rn w s n).1 (drI nx rn w s n).2 := rfl
    rw [e1, e2]
    refine ⟨b1, b2, ?_, ⟨c4, ?_, c2, c3⟩, fun k q1 q2 => (b3.2 k q1 q2).trans (a5 k q1 q2)⟩
    · rw [c1, a3]; rfl
    · rw [c1]; exact deed_rows p2 p4 b3.1 b4
def driftP (w : Nat → Int32) (V V' : Int32) (r2 W : Nat → Int32) (f2 c2 U S S' : Nat) (rh2 : Nat → Nat → Int32) : Prop :=
  V = V' ∧ U = c2 ∧ S = S' ∧ S < 2147483648 ∧ agr r2 W ∧ core W c2 f2 rh2 ∧ (∀ k, 2686 ≤ k → k < 3002 → W k = w k)
theorem op_drift {nx : Nat → Nat} {rn : Nat → Nat → Nat} (hN : nx = nxN) (hRn : rn = rnN) {w r2 W : Nat → Int32} {pc fi s f2 c2 U S S' : Nat} {rh rh2 : Nat → Nat → Int32} {V V' n : Int32} (h : core w pc fi rh) (hs : s < 2147483648) (hC : (V, r2, S, f2, c2, rh2) = driftC nx rn w fi pc rh s n) (hR : (V', W, U, S') = driftR nx rn w pc s n) : driftP w V V' r2 W f2 c2 U S S' rh2 := by
  have hrn : ∀ s n, 0 < n → rn s n < n := by rw [hRn]; exact fun s n hn => rnN_lt s hn
  have hnx : ∀ s, nx s < 2147483648 := by rw [hN]; exact nxN_lt
  unfold driftC at hC
  unfold driftR at hR
  cases hb : inB n.toInt64 1 12 with
  | false =>
    rw [hb] at hC hR
    injection hC with e1 hC
    injection hC with e2 hC
    injection hC with e3 hC
    injection hC with e4 hC
    injection hC with e5 e6
    injection hR with f1 hR
    injection hR with f2' hR
    injection hR with f3 f4
    subst e1 e2 e3 e4 e5 e6 f1 f2' f3 f4
    exact ⟨rfl, rfl, rfl, hs, agr.refl _, h, fun _ _ _ => rfl⟩
  | true =>
    rw [hb, if_pos rfl] at hC hR
    injection hC with e1 hC
    injection hC with e2 hC
    injection hC with e3 hC
    injection hR with f1 hR
    injection hR with f2' hR
    injection hR with f3 f4
    obtain ⟨a1, a2, a3, a4, a5⟩ := dr_all (nx := nx) (s := s) hrn (agr.refl w) h n.toNatClampNeg
    rw [← hC] at a3 a4
    refine ⟨?_, ?_, ?_, ?_, ?_, ?_, ?_⟩
    · rw [e1, f1]; exact a2 0 (by omega)
    · rw [f3, ← a3]
    · rw [e3, f4, a1]
    · rw [e3, a1]; exact drI_lt hnx hs _
    · rw [e2, f2']; exact a2
    · rw [f2']; exact a4
    · rw [f2']; exact a5
