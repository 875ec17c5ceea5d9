/-! rows that agree below 158 -/
def agr (r q : Nat → Int32) : Prop := ∀ k, k < 158 → r k = q k
theorem agr.symm {r q : Nat → Int32} (h : agr r q) : agr q r := fun k hk => (h k hk).symm
theorem agr.trans {r q s : Nat → Int32} (h : agr r q) (h2 : agr q s) : agr r s := fun k hk => (h k hk).trans (h2 k hk)
theorem agr.refl (r : Nat → Int32) : agr r r := fun _ _ => rfl
theorem fOff_c {r q : Nat → Int32} (e : agr r q) {c d s h : Nat} (hc : c < 8) (hd : d < 8) (hs : s < 2) (hh : h < 5) : fOff r c d s h = fOff q c d s h := by
  unfold fOff
  rw [e _ (by omega), e (6 + 40 * s + 5 * d + h) (by omega)]
theorem fSum_c {r q : Nat → Int32} (e : agr r q) {c d s : Nat} (hc : c < 8) (hd : d < 8) (hs : s < 2) : ∀ n, n ≤ 5 → fSum r c d s n = fSum q c d s n
  | 0, _ => rfl
  | n + 1, h => by
    unfold fSum
    rw [fSum_c e hc hd hs n (by omega), fOff_c e hc hd hs (by omega)]
theorem fMost_c {r q : Nat → Int32} (e : agr r q) {c d s : Nat} (hc : c < 8) (hd : d < 8) (hs : s < 2) : ∀ n, n ≤ 5 → fMost r c d s n = fMost q c d s n
  | 0, _ => rfl
  | n + 1, h => by
    unfold fMost
    rw [fMost_c e hc hd hs n (by omega), fOff_c e hc hd hs (by omega)]
theorem fSq_c {r q : Nat → Int32} (e : agr r q) {c d s : Nat} (hc : c < 8) (hd : d < 8) (hs : s < 2) : ∀ n, n ≤ 5 → fSq r c d s n = fSq q c d s n
  | 0, _ => rfl
  | n + 1, h => by
    unfold fSq
    rw [fSq_c e hc hd hs n (by omega), fOff_c e hc hd hs (by omega)]
theorem farOf_c {r q : Nat → Int32} (e : agr r q) {c d s : Nat} (hc : c < 8) (hd : d < 8) (hs : s < 2) : farOf r c d s = farOf q c d s := by
  unfold farOf
  rw [e 5 (by omega), fSum_c e hc hd hs 5 (Nat.le_refl _), fMost_c e hc hd hs 5 (Nat.le_refl _), fSq_c e hc hd hs 5 (Nat.le_refl _)]
theorem cmpW_c {r q : Nat → Int32} (e : agr r q) {c d s : Nat} (hc : c < 8) (hd : d < 8) (hs : s < 2) : cmpW r s c d = cmpW q s c d := by
  unfold cmpW
  rw [e 1 (by omega), farOf_c e hc hd hs]
theorem knW_c {r q : Nat → Int32} (e : agr r q) : knW r = knW q := by
  funext d
  unfold knW
  rw [e 0 (by omega)]
theorem fitN_c {K C C' : Nat → Bool} {p : Nat → Nat} {num : Nat} : ∀ c, (∀ d, d < c → C d = C' d) → fitN K C p num c = fitN K C' p num c
  | 0, _ => rfl
  | c + 1, h => by
    unfold fitN
    rw [fitN_c c (fun d hd => h d (by omega)), h c (by omega)]
theorem okS_c {K : Nat → Bool} {C C' : Nat → Nat → Bool} {most : Nat} {ps : List Nat} (hl : ps.length < 8) (h : ∀ c d, c < 8 → d < 8 → C c d = C' c d) : okS K C most ps = okS K C' most ps := by
  funext k
  unfold okS okN
  rw [fitN_c ps.length (fun d hd => h ps.length d hl (by omega))]
theorem sv_c {K : Nat → Bool} {C C' : Nat → Nat → Bool} {most : Nat} (h : ∀ c d, c < 8 → d < 8 → C c d = C' c d) : ∀ n ps f, ps.length + n ≤ 8 → sv (okS K C most) n ps f = sv (okS K C' most) n ps f
  | 0, ps, f, _ => rfl
  | n + 1, ps, f, hl => by
    unfold sv
    rw [okS_c (by omega) h, show (fun k => sv (okS K C most) n (k :: ps) 0) = (fun k => sv (okS K C' most) n (k :: ps) 0) from funext fun k => sv_c h n (k :: ps) 0 (by simp; omega)]
theorem svR_c {r q : Nat → Int32} (e : agr r q) {s : Nat} (hs : s < 2) (most : Nat) : svR r s most = svR q s most := by
  unfold svR
  rw [knW_c e]
  exact sv_c (fun c d hc hd => cmpW_c e hc hd hs) 8 [] 0 (Nat.le_refl _)
theorem clM_c {r q : Nat → Int32} (e : agr r q) {s : Nat} (hs : s < 2) : clM r s = clM q s := by
  unfold clM
  rw [show (fun m => (svR r s m).isSome) = (fun m => (svR q s m).isSome) from funext fun m => by rw [svR_c e hs]]
theorem clR_c {r q : Nat → Int32} (e : agr r q) {s : Nat} (hs : s < 2) : clR r s = clR q s := by
  unfold clR
  rw [clM_c e hs, svR_c e hs]
theorem clA_c {r q : Nat → Int32} (e : agr r q) {s : Nat} (hs : s < 2) : clA r s = clA q s := by
  funext d
  unfold clA
  rw [knW_c e, clR_c e hs]
theorem sgP_c {r q : Nat → Int32} (e : agr r q) {u : Nat} {sv ctA ctB : Int32} {cA cB : Nat → Int32} (h : sgP r u sv cA ctA cB ctB) : sgP q u sv cA ctA cB ctB := by
  refine ⟨h.1, fun hv => ?_⟩
  obtain ⟨h1, h2, h3, h4⟩ := h.2 hv
  rw [clA_c e (by omega)] at h1 h3
  rw [clM_c e (by omega)] at h2 h4
  exact ⟨h1, h2, h3, h4⟩
theorem agr_mem (w : Nat → Int32) : agr w (memTo w 0) := fun k hk => (memTo_lo w hk).symm
theorem agr_cp (w : Nat → Int32) {f t : Nat} (h : 0 < t) : agr w (cpRow w f t) := fun k hk => by
  unfold cpRow cpTo
  rw [if_neg (by omega)]
/-! the ring, against the rows behind the first -/
def pastP (w : Nat → Int32) (pc fi : Nat) (rh : Nat → Nat → Int32) : Prop := ∀ j, 1 ≤ j → j ≤ pc → ∀ k, k < 158 → rh ((fi + pc - j) % 16) k = w (158 * j + k)
def rowsOK (w : Nat → Int32) (pc : Nat) : Prop := ∀ j, j ≤ pc → rowOK (fun k => w (158 * j + k))
theorem rowsOK.row {w : Nat → Int32} {pc : Nat} (h : rowsOK w pc) : rowOK w := rowOK_c (h 0 (Nat.zero_le _)) (fun k _ => by show w k = w (158 * 0 + k); rw [Nat.mul_zero, Nat.zero_add])
/-- the rows are shifted by one, the ring takes one more -/
theorem deed_past {w W r : Nat → Int32} {pc fi f2 c2 : Nat} {rh rh2 : Nat → Nat → Int32} (h : pastP w pc fi rh) (hf : fi < 16) (hp : pc ≤ 16) (hr : agr w r) (hm : (f2, c2, rh2) = memR fi pc rh r) (hW : ∀ k, 158 ≤ k → k < 2686 → W k = w (k - 158)) : c2 = memU pc ∧ f2 < 16 ∧ c2 ≤ 16 ∧ pastP W c2 f2 rh2 := by
  unfold memR at hm
  by_cases q : 16 ≤ pc
  · rw [if_pos q] at hm
    obtain rfl : pc = 16 := by omega
    cases hm
    refine ⟨rfl, by omega, by omega, fun j h1 h2 k hk => ?_⟩
    unfold rgU
    rw [hW _ (by omega) (by omega)]
    by_cases hj : j = 1
    · subst hj
      rw [if_pos (by omega)]
      show r k = _
      rw [← hr k hk, show 158 * 1 + k - 158 = k by omega]
    · rw [if_neg (by omega)]
      have := h (j - 1) (by omega) (by omega) k hk
      rw [show (fi + 16 - (j - 1)) % 16 = ((fi + 1) % 16 + 16 - j) % 16 by omega] at this
      rw [this, show 158 * (j - 1) + k = 158 * j + k - 158 by omega]
  · rw [if_neg q] at hm
    cases hm
    refine ⟨by unfold memU; rw [if_neg q], hf, by omega, fun j h1 h2 k hk => ?_⟩
    unfold rgU
    rw [hW _ (by omega) (by omega)]
    by_cases hj : j = 1
    · subst hj
      rw [if_pos (by congr 1)]
      show r k = _
      rw [← hr k hk, show 158 * 1 + k - 158 = k by omega]
    · rw [if_neg (by omega)]
      have := h (j - 1) (by omega) (by omega) k hk
      rw [show (fi + pc - (j - 1)) % 16 = (fi + (pc + 1) - j) % 16 by congr 1; omega] at this
      rw [this, show 158 * (j - 1) + k = 158 * j + k - 158 by omega]
theorem deed_rows {w W : Nat → Int32} {pc : Nat} (h : rowsOK w pc) (hp : pc ≤ 16) (hW : ∀ k, 158 ≤ k → k < 2686 → W k = w (k - 158)) (h0 : rowOK W) : rowsOK W (memU pc) := by
  intro j hj
  have hj2 : j ≤ 16 ∧ j ≤ pc + 1 := by unfold memU at hj; split at hj <;> omega
  by_cases q : j = 0
  · subst q
    exact rowOK_c h0 (fun k _ => by show W (158 * 0 + k) = W k; rw [Nat.mul_zero, Nat.zero_add])
  · refine rowOK_c (h (j - 1) (by omega)) (fun k hk => ?_)
    show W (158 * j + k) = w (158 * (j - 1) + k)
    rw [hW _ (by omega) (by omega), show 158 * (j - 1) + k = 158 * j + k - 158 by omega]
theorem memTo_hi (w : Nat → Int32) {k : Nat} (h1 : 158 ≤ k) (h2 : k < 2686) : memTo w 0 k = w (k - 158) := by
  unfold memTo
  rw [if_pos (by omega)]
theorem memTo_im (w : Nat → Int32) {k : Nat} (h : 2686 ≤ k) : memTo w 0 k = w k := by
  unfold memTo
  rw [if_neg (by omega)]
/-- a row that came by a deed: its own part r, behind it the rows that were -/
def deedW (w W : Nat → Int32) : Prop := (∀ k, 158 ≤ k → k < 2686 → W k = w (k - 158)) ∧ ∀ k, 2686 ≤ k → k < 3002 → W k = w k
theorem deedW_upd {w : Nat → Int32} {i : Nat} {x : Int32} (h : i < 158) : deedW w (upd (memTo w 0) i x) := ⟨fun k h1 h2 => by rw [pk_un (by omega)]; exact memTo_hi w h1 h2, fun k h1 _ => by rw [pk_un (by omega)]; exact memTo_im w h1⟩
theorem rEdge_hi {w : Nat → Int32} {c s : Nat} {g : Nat → Nat} {k : Nat} (hc : c < 8) (hs : s < 2) (h : 158 ≤ k) : rEdge w c s g k = w k := by
  unfold rEdge
  rw [if_neg (by omega)]
theorem rKnow_h8 {w : Nat → Int32} {c d : Nat} {g h : Nat → Nat} {k : Nat} (hc : c < 8) (hk : 158 ≤ k) : rKnow w c g h d k = w k := by
  unfold rKnow
  rw [pk_un (by omega), pk_un (by omega), rEdge_hi hc (by omega) hk, rEdge_hi hc (by omega) hk]
theorem deedW_know {w : Nat → Int32} {c d : Nat} {g h : Nat → Nat} (hc : c < 8) : deedW w (rKnow (memTo w 0) c g h d) := ⟨fun k h1 h2 => by rw [rKnow_h8 hc h1]; exact memTo_hi w h1 h2, fun k h1 _ => by rw [rKnow_h8 hc (by omega)]; exact memTo_im w h1⟩
theorem forgTo_hi {w : Nat → Int32} {c : Nat} {k : Nat} (hk : 158 ≤ k) : forgTo w c 8 k = w k := by
  unfold forgTo
  rw [if_neg (by omega)]
theorem deedW_drop {w : Nat → Int32} {c : Nat} (hc : c < 8) : deedW w (dropR (memTo w 0) c) := by
  unfold dropR
  exact ⟨fun k h1 h2 => by rw [forgTo_hi h1, pk_un (by omega)]; exact memTo_hi w h1 h2, fun k h1 _ => by rw [forgTo_hi (by omega), pk_un (by omega)]; exact memTo_im w h1⟩
