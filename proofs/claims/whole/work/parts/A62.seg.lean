/-! worlds in segments, in any order -/
theorem perm_PD {D : va_G} {A : Nat → Prop} {ws ws' : va_W} {H : Heap} (h : ws.Perm ws') (hP : va_P D vwCl ws H) (hD : va_D A ws) : va_P D vwCl ws' H ∧ va_D A ws' := by
  have hm : ∀ q, q ∈ ws' → ∃ k : Nat, ws[k]? = some q := fun q hq => List.getElem?_of_mem (h.mem_iff.mpr hq)
  have hn : (ws.map Prod.fst).Nodup := by
    rw [List.nodup_iff_pairwise_ne, List.pairwise_iff_getElem]
    intro i j hi hj hij e
    rw [List.length_map] at hi hj
    have := hD.1 i j ws[i] ws[j] (List.getElem?_eq_getElem hi) (List.getElem?_eq_getElem hj) (by simpa using e)
    omega
  have hn' : (ws'.map Prod.fst).Nodup := (h.map Prod.fst).nodup_iff.mp hn
  refine ⟨fun k q hk => ?_, fun i j p q hi hj e => ?_, fun k q hk => ?_⟩
  · obtain ⟨k', hk'⟩ := hm q (List.mem_of_getElem? hk)
    exact hP k' q hk'
  · have e1 : (ws'.map Prod.fst)[i]? = some p.1 := by rw [List.getElem?_map, hi]; rfl
    have e2 : (ws'.map Prod.fst)[j]? = some p.1 := by rw [List.getElem?_map, hj, e]; rfl
    have l1 := (List.getElem?_eq_some_iff.mp e1).1
    exact (List.getElem?_inj l1 hn').mp (e1.trans e2.symm)
  · obtain ⟨k', hk'⟩ := hm q (List.mem_of_getElem? hk)
    exact hD.2 k' q hk'
theorem g_perm {X : CT} {Q : State → Prop} {ws ws' : va_W} {ce sl pc : Nat} {L : List (Option Value)} {st : List Value} (h : ws.Perm ws') (kk : G X Q ws' ce sl pc L st) : G X Q ws ce sl pc L st := by
  obtain ⟨p, l, e, R, s, m, args, below, meth, c, D, A⟩ := X
  intro H locs ls hP hD hS hl
  obtain ⟨h1, h2⟩ := perm_PD h hP hD
  exact kk H locs ls h1 h2 hS hl
def sel (segs : List va_W) (is : List Nat) : va_W := (is.map fun i => segs.getD i []).flatten
theorem sel_range (segs : List va_W) : sel segs (List.range segs.length) = segs.flatten := by
  unfold sel
  congr 1
  apply List.ext_getElem?
  intro k
  rw [List.getElem?_map]
  by_cases h : k < segs.length
  · rw [List.getElem?_range h, List.getElem?_eq_getElem h]
    simp [List.getD_eq_getElem?_getD, List.getElem?_eq_getElem h]
  · rw [List.getElem?_eq_none (by simpa using h), List.getElem?_eq_none (by simpa using h)]
    rfl
theorem sel_perm {segs : List va_W} {is : List Nat} (h : is.Perm (List.range segs.length)) : (sel segs is).Perm segs.flatten := by
  rw [← sel_range segs]
  exact (h.map _).flatten
theorem sel_app (segs : List va_W) (is js : List Nat) : sel segs (is ++ js) = sel segs is ++ sel segs js := by
  unfold sel
  rw [List.map_append, List.flatten_append]
def put : List va_W → List Nat → List va_W → List va_W
  | segs, i :: is, n :: ns => put (segs.set i n) is ns
  | segs, _, _ => segs
theorem put_len : ∀ (is : List Nat) (ns segs : List va_W), (put segs is ns).length = segs.length
  | [], ns, segs => by cases ns <;> rfl
  | i :: is, [], segs => rfl
  | i :: is, n :: ns, segs => by
    show (put (segs.set i n) is ns).length = _
    rw [put_len is ns, List.length_set]
theorem put_ne : ∀ (is : List Nat) (ns segs : List va_W) (k : Nat), k ∉ is → (put segs is ns).getD k [] = segs.getD k []
  | [], ns, segs, k, _ => by cases ns <;> rfl
  | i :: is, [], segs, k, _ => rfl
  | i :: is, n :: ns, segs, k, h => by
    show (put (segs.set i n) is ns).getD k [] = _
    rw [put_ne is ns (segs.set i n) k (fun z => h (List.mem_cons_of_mem _ z))]
    have hne : i ≠ k := fun z => h (by rw [z]; exact List.mem_cons_self)
    rw [List.getD_eq_getElem?_getD, List.getD_eq_getElem?_getD, List.getElem?_set_ne hne]
theorem put_sel : ∀ (is : List Nat) (ns segs : List va_W), is.Nodup → (∀ i ∈ is, i < segs.length) → ns.length = is.length → is.map (fun i => (put segs is ns).getD i []) = ns
  | [], ns, segs, _, _, hl => by
    cases ns with
    | nil => rfl
    | cons n ns => cases hl
  | i :: is, [], segs, _, _, hl => by cases hl
  | i :: is, n :: ns, segs, hn, hb, hl => by
    have hn' := List.nodup_cons.mp hn
    show (put (segs.set i n) is ns).getD i [] :: is.map (fun i_1 => (put (segs.set i n) is ns).getD i_1 []) = n :: ns
    rw [put_sel is ns (segs.set i n) hn'.2 (fun k hk => by rw [List.length_set]; exact hb k (List.mem_cons_of_mem _ hk)) (by simpa using hl), put_ne is ns _ i hn'.1]
    rw [List.getD_eq_getElem?_getD, List.getElem?_set_self (hb i List.mem_cons_self)]
    rfl
section GQ
variable {X : CT} {l0 : Launch} {D0 : va_G} {own nm : String} {cc : ByteArray} {nL : Nat} {rt : Option FieldType} {rf rl mc ms : Nat} {Q : State → Prop} {ce sl pc : Nat} {L : List (Option Value)} {st : List Value}
variable {S : Type} {idx : Nat} {y : MethodName} {b : ByteArray} {maxL : Nat} {ret : Option FieldType} {n rf' rl' mc' ms' : Nat} {As rest : List Value} {a : Nat} {wc : va_W} {post : Option Value → S → Prop} {wf : S → va_W}
/-- a call whose world is some of the segments -/
theorem g_callQ {segs : List va_W} (ns : S → List va_W) (is js : List Nat) (hX : CX X l0 D0 own nm cc nL rt rf rl mc ms) (d : decode cc pc = .ok (.invokevirtual idx, 3)) (cw : CW own idx y b maxL ret n) (hC : Ct l0 D0 y b maxL ret rf' rl' mc' ms' (.ref a :: As) wc post wf) (q0 ci : Nat) {fs : List Value} {T : u_T} {N : Nat} (hst : st = As.reverse ++ .ref a :: rest)
    (hpm : (is ++ js).Perm (List.range segs.length)) (hwc : wc = sel segs is) (hq : wc[q0]? = some (a, .inr (ci, fs))) (hci : vwCl[ci]? = some (y.cls, T, N)) (hn : As.length = n) (hsame : ∀ u, (wf u).map Prod.fst = wc.map Prod.fst)
    (hln : ∀ u, (ns u).length = is.length) (hwf : ∀ u, wf u = (ns u).flatten)
    (hroom : rf' + 1 ≤ rf ∧ 8 + (maxL + 11) + rl' ≤ rl) (hW : (rest.map fun v => v.category).sum ≤ 8) (hcs : ce + mc' ≤ mc ∧ sl + ms' ≤ ms)
    (kk : ∀ (v : Option Value) (u : S), post v u → G X Q (put segs is (ns u)).flatten (ce + mc') (sl + ms') (pc + 3) L (v.toList ++ rest)) : G X Q segs.flatten ce sl pc L st := by
  have hnd : (is ++ js).Nodup := hpm.nodup_iff.mpr List.nodup_range
  have hap := List.nodup_append.mp hnd
  have hbd : ∀ i ∈ is, i < segs.length := fun i hi => List.mem_range.mp (hpm.mem_iff.mp (List.mem_append_left _ hi))
  refine g_perm (ws' := wc ++ sel segs js) ?_ ?_
  · rw [hwc, ← sel_app]
    exact (sel_perm hpm).symm
  · refine g_callP (fs := fs) hX d cw hC q0 ci [] (sel segs js) rfl hst ?_ hci hn hsame hroom hW hcs (fun v u hp => ?_)
    · rw [List.getElem?_append_left (List.getElem?_eq_some_iff.mp hq).1]
      exact hq
    · refine g_perm ?_ (kk v u hp)
      show (wf u ++ sel segs js).Perm _
      have e1 : wf u = sel (put segs is (ns u)) is := by
        unfold sel
        rw [put_sel is (ns u) segs hap.1 hbd (hln u)]
        exact hwf u
      have e2 : sel segs js = sel (put segs is (ns u)) js := by
        unfold sel
        congr 1
        apply List.map_congr_left
        intro k hk
        exact (put_ne is (ns u) segs k (fun z => hap.2.2 k z k hk rfl)).symm
      rw [e1, e2, ← sel_app]
      exact sel_perm (by rw [put_len]; exact hpm)
end GQ
/-! the law's own script -/
def SX (X : CT) (b L : Nat) (xs : Nat → Int32) : Prop := match X with
  | (_, _, _, _, s, _, _, _, _, _, _, A) => va_X b L xs s s.heap ∧ b < s.heap.size ∧ ¬ A b
section GS
variable {X : CT} {l0 : Launch} {D0 : va_G} {own nm : String} {cc : ByteArray} {nL : Nat} {rt : Option FieldType} {rf rl mc ms : Nat} {Q : State → Prop} {ws : va_W} {ce sl pc : Nat} {L : List (Option Value)} {st : List Value}
theorem g_sld {b N n : Nat} {xs : Nat → Int32} (hX : CX X l0 D0 own nm cc nL rt rf rl mc ms) (hs : SX X b N xs) (d : decode cc pc = .ok (.iaload, 1)) (hN : N < 2147483648) (hn : n < N) (kk : G X Q ws ce sl (pc + 1) L (.int (xs n) :: st)) : G X Q ws ce sl pc L (.int (nI n) :: .ref b :: st) := by
  obtain ⟨p, l, e, R, s, m, args, below, meth, c, D, A⟩ := X
  obtain ⟨h1, h2, h3⟩ := hs
  intro H locs ls hP hD hS hl
  refine va_sld hX.1 hX.2.1 h1 h2 h3 hS (vp_in_nI hn hN) d ?_
  rw [nI_clamp (by omega)]
  exact kk H locs ls hP hD hS hl
theorem g_slen {b N : Nat} {xs : Nat → Int32} (hX : CX X l0 D0 own nm cc nL rt rf rl mc ms) (hs : SX X b N xs) (d : decode cc pc = .ok (.arraylength, 1)) (kk : G X Q ws ce sl (pc + 1) L (.int (nI N) :: st)) : G X Q ws ce sl pc L (.ref b :: st) := by
  obtain ⟨p, l, e, R, s, m, args, below, meth, c, D, A⟩ := X
  obtain ⟨h1, h2, h3⟩ := hs
  intro H locs ls hP hD hS hl
  exact va_slen hX.1 hX.2.1 h1 h2 h3 hS d (kk H locs ls hP hD hS hl)
end GS
