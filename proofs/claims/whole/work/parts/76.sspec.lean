/-! calls that change the state -/
def dv (v : Nat) : Nat → Nat
  | 0 => v
  | n + 1 => dv v n / 10
theorem dv_le (v : Nat) : ∀ n, dv v n ≤ v
  | 0 => Nat.le_refl _
  | n + 1 => by have := dv_le v n; unfold dv; omega
def dgt (v i : Nat) : Nat := dv v (4 - i) % 10
def rEdgeFr (w : Nat → Int32) (c side : Nat) (dg : Nat → Nat) (h : Nat) : Nat → Int32 := fun k => if 6 + 40 * side + 5 * c + h ≤ k ∧ k < 6 + 40 * side + 5 * c + 5 then nI (dg (k - (6 + 40 * side + 5 * c))) else w k
theorem rEdgeFr_5 (w : Nat → Int32) (c side : Nat) (dg : Nat → Nat) : rEdgeFr w c side dg 5 = w := by
  funext k; unfold rEdgeFr; rw [if_neg (by omega)]
theorem rEdgeFr_0 (w : Nat → Int32) (c side : Nat) (dg : Nat → Nat) : rEdgeFr w c side dg 0 = rEdge w c side dg := rfl
theorem upd_at {f : Nat → Int32} {i : Nat} {x : Int32} (k : Nat) : upd f i x k = if k = i then x else f k := by
  by_cases h : k = i
  · subst h; rw [if_pos rfl]; exact pk_us
  · rw [if_neg h]; exact pk_un h
theorem rEdgeFr_s (w : Nat → Int32) (c side v : Nat) {j : Nat} (hj : j < 5) : upd (rEdgeFr w c side (dgt v) (j + 1)) (6 + 40 * side + 5 * c + j) (nI (dv v (5 - (j + 1)) % 10)) = rEdgeFr w c side (dgt v) j := by
  funext k
  rw [upd_at]
  unfold rEdgeFr
  by_cases h : k = 6 + 40 * side + 5 * c + j
  · rw [if_pos h, if_pos (by omega), h, show 6 + 40 * side + 5 * c + j - (6 + 40 * side + 5 * c) = j by omega]
    unfold dgt
    rw [show 5 - (j + 1) = 4 - j by omega]
  · rw [if_neg h]
    by_cases h2 : 6 + 40 * side + 5 * c + (j + 1) ≤ k ∧ k < 6 + 40 * side + 5 * c + 5
    · rw [if_pos h2, if_pos (by omega)]
    · rw [if_neg h2, if_neg (by omega)]
theorem pj_1 {j : Nat} : nI (j + 1) - nI 1 = nI j := by rw [pk_sub (by omega)]; rfl
theorem pj_neg : nI 0 - nI 1 < 0 := by decide
def onesTo (k : Int32) : Nat → Int32
  | 0 => nI 0
  | i + 1 => onesTo k i + ((k >>> (nI i &&& 31)) &&& nI 1)
def memU (uk : Nat) : Nat := if 16 ≤ uk then 16 else uk + 1
def letB (c l r wd : Int32) : Bool := inB c.toInt64 0 7 && (inB l.toInt64 0 99999 && (inB r.toInt64 0 99999 && inB wd.toInt64 1 9))
def letW (w : Nat → Int32) (c l r wd : Nat) : Nat → Int32 := rKnow (memTo w 0) c (dgt l) (dgt r) wd
def letterR (w : Nat → Int32) (uk : Nat) (c l r wd : Int32) : Int32 × (Nat → Int32) × Nat :=
  if letB c l r wd then (onesTo (letW w c.toNatClampNeg l.toNatClampNeg r.toNatClampNeg wd.toNatClampNeg 0) 8, letW w c.toNatClampNeg l.toNatClampNeg r.toNatClampNeg wd.toNatClampNeg, memU uk) else ((-1000000002), w, uk)
theorem letterR_no {w : Nat → Int32} {uk : Nat} {c l r wd : Int32} (h : letB c l r wd = false) : letterR w uk c l r wd = ((-1000000002), w, uk) := by unfold letterR; rw [h]; rfl
theorem letterR_ok {w : Nat → Int32} {uk c l r wd : Nat} (h : letB (nI c) (nI l) (nI r) (nI wd) = true) (hc : c < 8) (hl : l ≤ 99999) (hr : r ≤ 99999) (hd : wd ≤ 9) : letterR w uk (nI c) (nI l) (nI r) (nI wd) = (onesTo (letW w c l r wd 0) 8, letW w c l r wd, memU uk) := by
  unfold letterR
  rw [h, nI_cl (by omega), nI_cl (by omega), nI_cl (by omega), nI_cl (by omega)]
  rfl
theorem letW_eq {w : Nat → Int32} {c l r wd : Nat} : upd (upd (rEdge (rEdge (memTo w 0) c 0 (dgt l)) c 1 (dgt r)) (86 + c) (nI wd)) 0 (upd (rEdge (rEdge (memTo w 0) c 0 (dgt l)) c 1 (dgt r)) (86 + c) (nI wd) 0 ||| nI 1 <<< (nI c &&& 31)) = letW w c l r wd := by
  unfold letW rKnow
  rw [pk_un (by omega), rEdge_0, rEdge_0]
/-- what a letter takes along when it is forgotten -/
def forgTo (w : Nat → Int32) (c n : Nat) : Nat → Int32 := fun k => if 94 ≤ k ∧ k < 158 ∧ (((k - 94) / 8 = c ∧ (k - 94) % 8 < n) ∨ ((k - 94) % 8 = c ∧ (k - 94) / 8 < n)) then nI 0 else w k
theorem forgTo_0 (w : Nat → Int32) (c : Nat) : forgTo w c 0 = w := by
  funext k; unfold forgTo; rw [if_neg (by omega)]
theorem forgTo_s (w : Nat → Int32) {c n : Nat} (hc : c < 8) (hn : n < 8) : upd (upd (forgTo w c n) (94 + 8 * c + n) (nI 0)) (94 + 8 * n + c) (nI 0) = forgTo w c (n + 1) := by
  funext k
  rw [upd_at, upd_at]
  unfold forgTo
  by_cases h1 : k = 94 + 8 * n + c
  · rw [if_pos h1, if_pos (by omega)]
  · rw [if_neg h1]
    by_cases h2 : k = 94 + 8 * c + n
    · rw [if_pos h2, if_pos (by omega)]
    · rw [if_neg h2]
      by_cases h3 : 94 ≤ k ∧ k < 158 ∧ (((k - 94) / 8 = c ∧ (k - 94) % 8 < n) ∨ ((k - 94) % 8 = c ∧ (k - 94) / 8 < n))
      · rw [if_pos h3, if_pos (by omega)]
      · rw [if_neg h3, if_neg (by omega)]
def forgW (w : Nat → Int32) (c : Nat) : Nat → Int32 := forgTo (upd (memTo w 0) 0 (memTo w 0 0 &&& ((nI 1 <<< (nI c &&& 31)) ^^^ (-1)))) c 8
def forgetR (w : Nat → Int32) (uk : Nat) (c : Int32) : Int32 × (Nat → Int32) × Nat := if isKn (w 0) c then (onesTo (forgW w c.toNatClampNeg 0) 8, forgW w c.toNatClampNeg, memU uk) else ((-1000000001), w, uk)
theorem forgetR_no {w : Nat → Int32} {uk : Nat} {c : Int32} (h : isKn (w 0) c = false) : forgetR w uk c = ((-1000000001), w, uk) := by unfold forgetR; rw [h]; rfl
theorem forgetR_ok {w : Nat → Int32} {uk c : Nat} (hc : c < 8) (h : kn (w 0) c = true) : forgetR w uk (nI c) = (onesTo (forgW w c 0) 8, forgW w c, memU uk) := by unfold forgetR; rw [isKn_n hc, h, nI_cl (by omega)]; rfl
def judW (w : Nat → Int32) (c d : Nat) (g : Int32) : Nat → Int32 := upd (memTo w 0) (94 + 8 * c + d) (g + nI 100)
def judgeR (w : Nat → Int32) (uk : Nat) (c d g : Int32) : Int32 × (Nat → Int32) × Nat :=
  if isKn (w 0) c && isKn (w 0) d then (if inB g.toInt64 (-20) 20 then (gapOf (judW w c.toNatClampNeg d.toNatClampNeg g) (cq (judW w c.toNatClampNeg d.toNatClampNeg g)) c.toNatClampNeg d.toNatClampNeg, judW w c.toNatClampNeg d.toNatClampNeg g, memU uk) else ((-1000000002), w, uk)) else ((-1000000001), w, uk)
theorem judgeR_no {w : Nat → Int32} {uk : Nat} {c d g : Int32} (h : (isKn (w 0) c && isKn (w 0) d) = false) : judgeR w uk c d g = ((-1000000001), w, uk) := by unfold judgeR; rw [h]; rfl
theorem judgeR_bad {w : Nat → Int32} {uk c d : Nat} {g : Int32} (hc : c < 8) (hd : d < 8) (kc : kn (w 0) c = true) (kd : kn (w 0) d = true) (h : inB g.toInt64 (-20) 20 = false) : judgeR w uk (nI c) (nI d) g = ((-1000000002), w, uk) := by unfold judgeR; rw [isKn_n hc, isKn_n hd, kc, kd, h]; rfl
theorem judgeR_ok {w : Nat → Int32} {uk c d : Nat} {g : Int32} (hc : c < 8) (hd : d < 8) (kc : kn (w 0) c = true) (kd : kn (w 0) d = true) (h : inB g.toInt64 (-20) 20 = true) : judgeR w uk (nI c) (nI d) g = (gapOf (judW w c d g) (cq (judW w c d g)) c d, judW w c d g, memU uk) := by unfold judgeR; rw [isKn_n hc, isKn_n hd, kc, kd, h, nI_cl (by omega), nI_cl (by omega)]; rfl
theorem memTo_lo (w : Nat → Int32) {k : Nat} (h : k < 158) : memTo w 0 k = w k := by unfold memTo; rw [if_neg (by omega)]
theorem judW_0 {w : Nat → Int32} {c d : Nat} {g : Int32} : judW w c d g 0 = w 0 := by unfold judW; rw [pk_un (by omega), memTo_lo w (by omega)]
def witW (w : Nat → Int32) (c d : Nat) : Nat → Int32 := upd (memTo w 0) (94 + 8 * c + d) (nI 0)
def withdrawR (w : Nat → Int32) (uk : Nat) (c d : Int32) : Int32 × (Nat → Int32) × Nat :=
  if isKn (w 0) c && isKn (w 0) d then (if w (94 + 8 * c.toNatClampNeg + d.toNatClampNeg) = 0 then ((-1000000003), w, uk) else (w (94 + 8 * c.toNatClampNeg + d.toNatClampNeg), witW w c.toNatClampNeg d.toNatClampNeg, memU uk)) else ((-1000000001), w, uk)
theorem withdrawR_no {w : Nat → Int32} {uk : Nat} {c d : Int32} (h : (isKn (w 0) c && isKn (w 0) d) = false) : withdrawR w uk c d = ((-1000000001), w, uk) := by unfold withdrawR; rw [h]; rfl
theorem withdrawR_0 {w : Nat → Int32} {uk c d : Nat} (hc : c < 8) (hd : d < 8) (kc : kn (w 0) c = true) (kd : kn (w 0) d = true) (h : w (94 + 8 * c + d) = 0) : withdrawR w uk (nI c) (nI d) = ((-1000000003), w, uk) := by unfold withdrawR; rw [isKn_n hc, isKn_n hd, kc, kd, nI_cl (by omega), nI_cl (by omega)]; exact if_pos h
theorem withdrawR_ok {w : Nat → Int32} {uk c d : Nat} (hc : c < 8) (hd : d < 8) (kc : kn (w 0) c = true) (kd : kn (w 0) d = true) (h : ¬ w (94 + 8 * c + d) = 0) : withdrawR w uk (nI c) (nI d) = (w (94 + 8 * c + d), witW w c d, memU uk) := by unfold withdrawR; rw [isKn_n hc, isKn_n hd, kc, kd, nI_cl (by omega), nI_cl (by omega)]; exact if_neg h
def mostN (k : Nat) : Nat := if k = 1 ∨ k = 2 then 20 else if k = 4 then 2 else 99
def termB (k v : Int32) : Bool := inB k.toInt64 0 4 && inB v.toInt64 (if k = nI 2 then 1 else 0) (nI (mostN k.toNatClampNeg)).toInt64
def trmW (w : Nat → Int32) (k : Nat) (v : Int32) : Nat → Int32 := upd (memTo w 0) (1 + k) v
def termR (w : Nat → Int32) (uk : Nat) (k v : Int32) : Int32 × (Nat → Int32) × Nat := if termB k v then (w (1 + k.toNatClampNeg), trmW w k.toNatClampNeg v, memU uk) else ((-1000000002), w, uk)
theorem termR_no {w : Nat → Int32} {uk : Nat} {k v : Int32} (h : termB k v = false) : termR w uk k v = ((-1000000002), w, uk) := by unfold termR; rw [h]; rfl
theorem termR_ok {w : Nat → Int32} {uk k : Nat} {v : Int32} (hk : k ≤ 4) (h : termB (nI k) v = true) : termR w uk (nI k) v = (w (1 + k), trmW w k v, memU uk) := by unfold termR; rw [h, nI_cl (by omega)]; rfl
