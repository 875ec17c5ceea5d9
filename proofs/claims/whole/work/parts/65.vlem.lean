/-! the answers, place by place -/
theorem sw_out {x : Int32} {lo n : Nat} (hb : lo + n < 2147483648 ∧ 0 < n) (h : ∀ j, j < n → ¬ x = nI (lo + j)) : x.toInt < (lo : Int) ∨ ((lo + n - 1 : Nat) : Int) < x.toInt := by
  rcases Int.lt_or_le x.toInt (lo : Int) with h1 | h1
  · exact Or.inl h1
  · rcases Int.lt_or_le ((lo + n - 1 : Nat) : Int) x.toInt with h2 | h2
    · exact Or.inr h2
    · exfalso
      refine h (x.toInt.toNat - lo) (by omega) ?_
      apply Int32.toInt_inj.mp
      rw [nI_toInt (by omega)]
      omega
theorem nI_cl {n : Nat} (h : n < 2147483648) : (nI n).toNatClampNeg = n := by
  have := nI_toInt h
  rw [Int32.toNatClampNeg]
  show (nI n).toInt.toNat = n
  rw [this]; rfl
theorem edgeV_no {w : Nat → Int32} {c side h : Int32} (hk : isKn (w 0) c = false) : edgeV w c side h = (-1000000001) := by
  unfold edgeV; rw [hk]; rfl
theorem edgeV_bad {w : Nat → Int32} {c side h : Int32} (hk : isKn (w 0) c = true) (hb : (inB side.toInt64 0 1 && inB h.toInt64 0 4) = false) : edgeV w c side h = (-1000000002) := by
  unfold edgeV; rw [hk, hb]; rfl
theorem edgeV_ok {w : Nat → Int32} {c side h : Nat} (hc : c < 8) (hk : kn (w 0) c = true) (hs : side < 2) (hh : h < 5) : edgeV w (nI c) (nI side) (nI h) = w (6 + 40 * side + 5 * c + h) := by
  unfold edgeV
  rw [isKn_n hc, hk, nI_cl (by omega), nI_cl (by omega), nI_cl (by omega), show (0 : Int64) = lN 0 from rfl, show (1 : Int64) = lN 1 from rfl, show (4 : Int64) = lN 4 from rfl, inB_n (by omega) (by omega) (by omega), inB_n (by omega) (by omega) (by omega), decide_eq_true (show 0 ≤ side by omega), decide_eq_true (show side ≤ 1 by omega), decide_eq_true (show 0 ≤ h by omega), decide_eq_true (show h ≤ 4 by omega)]
  rfl
theorem atV_no {w : Nat → Int32} {c what : Int32} (hk : isKn (w 0) c = false) : atV w c what = (-1000000001) := by
  unfold atV; rw [hk]; rfl
theorem atV_w {w : Nat → Int32} {c : Nat} {what : Int32} (hc : c < 8) (hk : kn (w 0) c = true) (h0 : what = 0) : atV w (nI c) what = w (86 + c) := by
  unfold atV; rw [isKn_n hc, hk, nI_cl (by omega), if_pos rfl, if_pos h0]
theorem atV_l {w : Nat → Int32} {c : Nat} {what : Int32} (hc : c < 8) (hk : kn (w 0) c = true) (h0 : ¬ what = 0) (h1 : what = nI 1) : atV w (nI c) what = cq w c := by
  unfold atV; rw [isKn_n hc, hk, nI_cl (by omega), if_pos rfl, if_neg h0, if_pos h1, cq_L w hc]
theorem atV_r {w : Nat → Int32} {c : Nat} {what : Int32} (hc : c < 8) (hk : kn (w 0) c = true) (h0 : ¬ what = 0) (h1 : ¬ what = nI 1) (h2 : what = nI 2) : atV w (nI c) what = cq w (8 + c) := by
  unfold atV; rw [isKn_n hc, hk, nI_cl (by omega), if_pos rfl, if_neg h0, if_neg h1, if_pos h2, cq_R w hc]
theorem atV_bad {w : Nat → Int32} {c : Nat} {what : Int32} (hc : c < 8) (hk : kn (w 0) c = true) (h0 : ¬ what = 0) (h1 : ¬ what = nI 1) (h2 : ¬ what = nI 2) : atV w (nI c) what = (-1000000002) := by
  unfold atV; rw [isKn_n hc, hk, if_pos rfl, if_neg h0, if_neg h1, if_neg h2]
theorem farV_no {w : Nat → Int32} {c d side : Int32} (h : (isKn (w 0) c && isKn (w 0) d) = false) : farV w c d side = (-1000000001) := by
  unfold farV; rw [h]; rfl
theorem farV_bad {w : Nat → Int32} {c d : Nat} {side : Int32} (hc : c < 8) (hd : d < 8) (kc : kn (w 0) c = true) (kd : kn (w 0) d = true) (hb : inB side.toInt64 0 1 = false) : farV w (nI c) (nI d) side = (-1000000002) := by
  unfold farV; rw [isKn_n hc, isKn_n hd, kc, kd, hb]; rfl
theorem farV_ok {w : Nat → Int32} {c d side : Nat} (hc : c < 8) (hd : d < 8) (kc : kn (w 0) c = true) (kd : kn (w 0) d = true) (hb : inB (nI side).toInt64 0 1 = true) (hs : side < 2) : farV w (nI c) (nI d) (nI side) = farOf w c d side := by
  unfold farV; rw [isKn_n hc, isKn_n hd, kc, kd, hb, nI_cl (by omega), nI_cl (by omega), nI_cl (by omega)]; rfl
theorem pairV_no {w : Nat → Int32} {c d what : Int32} (h : (isKn (w 0) c && isKn (w 0) d) = false) : pairV w c d what = (-1000000001) := by
  unfold pairV; rw [h]; rfl
theorem pairV_0 {w : Nat → Int32} {c d : Nat} (hc : c < 8) (hd : d < 8) (kc : kn (w 0) c = true) (kd : kn (w 0) d = true) : pairV w (nI c) (nI d) (nI 0) = gapOf w (cq w) c d := by
  unfold pairV; rw [isKn_n hc, isKn_n hd, kc, kd, nI_cl (by omega), nI_cl (by omega), if_pos (show (true && true) = true from rfl), if_pos rfl]
theorem pairV_1 {w : Nat → Int32} {c d : Nat} (hc : c < 8) (hd : d < 8) (kc : kn (w 0) c = true) (kd : kn (w 0) d = true) : pairV w (nI c) (nI d) (nI 1) = (if w (94 + 8 * c + d) ≤ 0 then (-1) else w (94 + 8 * c + d)) := by
  unfold pairV; rw [isKn_n hc, isKn_n hd, kc, kd, nI_cl (by omega), nI_cl (by omega), if_pos (show (true && true) = true from rfl), if_neg (by decide), if_pos rfl]
theorem pairV_2 {w : Nat → Int32} {c d : Nat} (hc : c < 8) (hd : d < 8) (kc : kn (w 0) c = true) (kd : kn (w 0) d = true) : pairV w (nI c) (nI d) (nI 2) = bI (strB w (cq w) c d) := by
  unfold pairV; rw [isKn_n hc, isKn_n hd, kc, kd, nI_cl (by omega), nI_cl (by omega), if_pos (show (true && true) = true from rfl), if_neg (by decide), if_neg (by decide), if_pos rfl]
theorem pairV_3 {w : Nat → Int32} {c d : Nat} (hc : c < 8) (hd : d < 8) (kc : kn (w 0) c = true) (kd : kn (w 0) d = true) : pairV w (nI c) (nI d) (nI 3) = sight w c d + nI 100 := by
  unfold pairV; rw [isKn_n hc, isKn_n hd, kc, kd, nI_cl (by omega), nI_cl (by omega), if_pos (show (true && true) = true from rfl), if_neg (by decide), if_neg (by decide), if_neg (by decide), if_pos rfl]
theorem pairV_4 {w : Nat → Int32} {c d : Nat} (hc : c < 8) (hd : d < 8) (kc : kn (w 0) c = true) (kd : kn (w 0) d = true) : pairV w (nI c) (nI d) (nI 4) = white w c d (gapOf w (cq w) c d - nI 100) := by
  unfold pairV; rw [isKn_n hc, isKn_n hd, kc, kd, nI_cl (by omega), nI_cl (by omega), if_pos (show (true && true) = true from rfl), if_neg (by decide), if_neg (by decide), if_neg (by decide), if_neg (by decide), if_pos rfl]
theorem pairV_o {w : Nat → Int32} {c d : Nat} (hc : c < 8) (hd : d < 8) (kc : kn (w 0) c = true) (kd : kn (w 0) d = true) {what : Int32} (h0 : ¬ what = nI 0) (h1 : ¬ what = nI 1) (h2 : ¬ what = nI 2) (h3 : ¬ what = nI 3) (h4 : ¬ what = nI 4) : pairV w (nI c) (nI d) what = (-1000000002) := by
  unfold pairV; rw [isKn_n hc, isKn_n hd, kc, kd, if_pos (show (true && true) = true from rfl), if_neg h0, if_neg h1, if_neg h2, if_neg h3, if_neg h4]
