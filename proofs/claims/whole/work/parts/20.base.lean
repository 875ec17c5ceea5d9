/-! MY LAYER: one judgement (G) over a world, positional locals and a stack; one form of contract (Ct); one call row -/
def TB : List Cond := lw_tbl.filter goodWord
theorem TB_in {i : Nat} {w : Cond} (h : lw_tbl[i]? = some w) (hg : goodWord w = true) : w ∈ TB := List.mem_filter.mpr ⟨List.mem_of_getElem? h, hg⟩
theorem TB_good {w : Cond} (h : w ∈ TB) : (w.onTables && w.keeps) = true ∨ ∃ ty, w = .arrayClass ty := good_of_word (List.mem_filter.mp h).2
theorem TB_gi {ws : List Cond} (h : ∀ w ∈ ws, w ∈ TB) : GoodIn TB ws := fun w hw => ⟨h w hw, TB_good (h w hw)⟩
/-! words that are no tables' words of the plain kind, and what the statics hold -/
def NFl : List (String × Nat × String × String × String) := [("SightSpacing", 98, "SightSpacing$State", "known", "I"), ("SightSpacing", 146, "SightSpacing$State", "widths", "[I"), ("SightSpacing$Parting", 43, "SightSpacing$State", "terms", "[I"), ("SightSpacing", 126, "SightSpacing$State", "terms", "[I"), ("SightSpacing$Sight", 84, "SightSpacing$State", "terms", "[I"), ("SightSpacing$Sight", 54, "SightSpacing$State", "version", "I"), ("SightSpacing$Sight", 77, "SightSpacing$Parting", "classOf", "[I"), ("SightSpacing", 149, "SightSpacing$Parting", "classOf", "[I"), ("SightSpacing", 105, "SightSpacing$Parting", "count", "I"), ("SightSpacing$Sight", 128, "SightSpacing$Parting", "count", "I"), ("SightSpacing", 101, "SightSpacing$Sight", "lefts", "LSightSpacing$Parting;"), ("SightSpacing", 110, "SightSpacing$Sight", "rights", "LSightSpacing$Parting;"), ("SightSpacing", 182, "SightSpacing$Sight", "pairs", "I"), ("SightSpacing", 185, "SightSpacing$Sight", "judged", "I"), ("SightSpacing", 188, "SightSpacing$Sight", "kept", "I"), ("SightSpacing", 70, "SightSpacing$Reader", "length", "I"), ("SightSpacing", 89, "SightSpacing$Reader", "clauses", "I"), ("SightSpacing", 77, "SightSpacing$Reader", "faultNumber", "I"), ("SightSpacing", 92, "SightSpacing$Reader", "faultPlace", "I"), ("SightSpacing", 83, "SightSpacing$Reader", "draft", "LSightSpacing$State;"), ("SightSpacing", 134, "SightSpacing$Past", "count", "I"), ("SightSpacing", 129, "SightSpacing$Book", "count", "I"), ("SightSpacing$Reader", 116, "SightSpacing", "LEAST_TERMS", "[I"), ("SightSpacing$Reader", 120, "SightSpacing", "MOST_TERMS", "[I"), ("SightSpacing$State", 47, "SightSpacing", "PLACE_VALUES", "[I")]
def NMl : List (String × Nat × MethodName) := [("SightSpacing$Sight", 11, yX1_init), ("SightSpacing", 27, yX3_init), ("SightSpacing", 41, yX0_init)]
abbrev nfw (q : String × Nat × String × String × String) : Cond := .fieldLinkNest q.1 q.2.1 q.2.2.1 q.2.2.2.1 q.2.2.2.2 "SightSpacing"
abbrev nmw (q : String × Nat × MethodName) : Cond := .methodLinkNest q.1 q.2.1 q.2.2 "SightSpacing"
def strIx : List Nat := [63, 72, 74, 76, 78, 126, 128, 130]
def strTx : List String := ["like", "odd", "cap", "aim", "by", "most", "square", "sum"]
def strLen : List Nat := [4, 3, 3, 3, 2, 4, 6, 3]
def strByt : List (List Int32) := [[108, 105, 107, 101], [111, 100, 100], [99, 97, 112], [97, 105, 109], [98, 121], [109, 111, 115, 116], [115, 113, 117, 97, 114, 101], [115, 117, 109]]
def leastT : List Int32 := [0, 0, 1, 0, 0]
def mostT : List Int32 := [99, 20, 20, 99, 2]
def placeV : List Int32 := [10000, 1000, 100, 10, 1]
def digOne (j : Nat) : Int32 := nI (48 + j % 10)
def digTen (j : Nat) : Int32 := nI (48 + j / 10)
/-- the arrays of states; that a method of the JDK is private -/
def AOP (U : State) : Prop := va_AO "SightSpacing$State" U ∧ va_Nw (.privateMethod yJ5_ensureCapacityInternal_d00df) U
theorem AOP.moved {u U : State} (hv : u.vm.Alike U.vm) (h : AOP u) : AOP U := ⟨h.1.moved hv, va_tabs rfl (rfl : (u.setVm U.vm).vm = U.vm) (by rw [Cond.privateMethod_setVm hv]; exact h.2)⟩
def RO (D : va_G) (A : Nat → Prop) (U : State) (H : Heap) : Prop :=
  (∀ q ∈ NFl, va_Nw (nfw q) U) ∧ (∀ q ∈ NMl, va_Nw (nmw q) U) ∧ AOP U ∧
  (∃ t : Nat, va_Z "SightSpacing" "LEAST_TERMS" "[I" (.ref t) A U H ∧ va_T .int t 5 (fun j => .int (leastT.getD j 0)) A U H) ∧
  (∃ t : Nat, va_Z "SightSpacing" "MOST_TERMS" "[I" (.ref t) A U H ∧ va_T .int t 5 (fun j => .int (mostT.getD j 0)) A U H) ∧
  (∃ t : Nat, va_Z "SightSpacing" "PLACE_VALUES" "[I" (.ref t) A U H ∧ va_T .int t 5 (fun j => .int (placeV.getD j 0)) A U H) ∧
  va_Z "java/lang/String" "COMPACT_STRINGS" "Z" (.int 1) A U H ∧
  (∃ t : Nat, va_Z "java/lang/Integer" "DigitOnes" "[B" (.ref t) A U H ∧ va_T .byte t 100 (fun j => .int (digOne j)) A U H) ∧
  (∃ t : Nat, va_Z "java/lang/Integer" "DigitTens" "[B" (.ref t) A U H ∧ va_T .byte t 100 (fun j => .int (digTen j)) A U H) ∧
  va_Zq "jdk/internal/util/Preconditions" "SIOOBE_FORMATTER" "Ljava/util/function/BiFunction;" A U H ∧
  vk_S 8 strLen strByt (D.2 100) (D.2 101) A U H ∧ (∀ i, i < 8 → vk_R "SightSpacing$Reader" (strIx.getD i 0) (strTx.getD i "") (D.2 100 i) U)
theorem RO.kept {D : va_G} {A : Nat → Prop} {U : State} {H H1 : Heap} (h : RO D A U H) (hq : ∀ a : Nat, a < H.size → ¬ A a → H1[a]? = H[a]?) : RO D A U H1 := by
  obtain ⟨h1, h2, h3, ⟨t1, a1, b1⟩, ⟨t2, a2, b2⟩, ⟨t3, a3, b3⟩, h4, ⟨t4, a4, b4⟩, ⟨t5, a5, b5⟩, h5, h6, h7⟩ := h
  exact ⟨h1, h2, h3, ⟨t1, a1.kept hq, b1.kept hq⟩, ⟨t2, a2.kept hq, b2.kept hq⟩, ⟨t3, a3.kept hq, b3.kept hq⟩, h4.kept hq, ⟨t4, a4.kept hq, b4.kept hq⟩, ⟨t5, a5.kept hq, b5.kept hq⟩, h5.kept hq, h6.kept hq, h7⟩
theorem RO.narrow {D : va_G} {A B : Nat → Prop} {U : State} {H : Heap} (h : RO D A U H) (hq : ∀ q, B q → A q) : RO D B U H := by
  obtain ⟨h1, h2, h3, ⟨t1, a1, b1⟩, ⟨t2, a2, b2⟩, ⟨t3, a3, b3⟩, h4, ⟨t4, a4, b4⟩, ⟨t5, a5, b5⟩, h5, h6, h7⟩ := h
  exact ⟨h1, h2, h3, ⟨t1, a1.narrow hq, b1.narrow hq⟩, ⟨t2, a2.narrow hq, b2.narrow hq⟩, ⟨t3, a3.narrow hq, b3.narrow hq⟩, h4.narrow hq, ⟨t4, a4.narrow hq, b4.narrow hq⟩, ⟨t5, a5.narrow hq, b5.narrow hq⟩, h5.narrow hq, h6.narrow hq, h7⟩
theorem RO.warm {D : va_G} {A : Nat → Prop} {s U : State} {H : Heap} (h : RO D A s H) (hW : s.WarmedH U.vm) : RO D A U H := by
  have hv := hW.alike
  obtain ⟨h1, h2, h3, ⟨t1, a1, b1⟩, ⟨t2, a2, b2⟩, ⟨t3, a3, b3⟩, h4, ⟨t4, a4, b4⟩, ⟨t5, a5, b5⟩, h5, h6, h7⟩ := h
  exact ⟨fun q hq => (h1 q hq).warmF hW, fun q hq => (h2 q hq).warmM hW, h3.moved hv, ⟨t1, a1.moved hv, b1.moved hv⟩, ⟨t2, a2.moved hv, b2.moved hv⟩, ⟨t3, a3.moved hv, b3.moved hv⟩, h4.moved hv, ⟨t4, a4.moved hv, b4.moved hv⟩, ⟨t5, a5.moved hv, b5.moved hv⟩, h5.moved hv, h6.moved hv, fun i hi => (h7 i hi).warm hW⟩
theorem RO.same {D : va_G} {A : Nat → Prop} {u U : State} {H : Heap} (h : RO D A u H) (he : U.vm = u.vm) : RO D A U H := by
  have hv : u.vm.Alike U.vm := by rw [he]; exact Vm.Alike.refl u.vm
  obtain ⟨h1, h2, h3, ⟨t1, a1, b1⟩, ⟨t2, a2, b2⟩, ⟨t3, a3, b3⟩, h4, ⟨t4, a4, b4⟩, ⟨t5, a5, b5⟩, h5, h6, h7⟩ := h
  exact ⟨fun q hq => (h1 q hq).same rfl he.symm, fun q hq => (h2 q hq).same rfl he.symm, h3.moved hv, ⟨t1, a1.moved hv, b1.moved hv⟩, ⟨t2, a2.moved hv, b2.moved hv⟩, ⟨t3, a3.moved hv, b3.moved hv⟩, h4.moved hv, ⟨t4, a4.moved hv, b4.moved hv⟩, ⟨t5, a5.moved hv, b5.moved hv⟩, h5.moved hv, h6.moved hv, fun i hi => (h7 i hi).same he⟩
/-! positional locals -/
def lgt : List (Option Value) → Nat → Option Value
  | [], _ => none
  | o :: _, 0 => o
  | _ :: L, n + 1 => lgt L n
def lst : List (Option Value) → Nat → Option Value → List (Option Value)
  | [], _, _ => []
  | _ :: L, 0, v => v :: L
  | o :: L, n + 1, v => o :: lst L n v
def lno (o : Option Value) : Option Value := match o with
  | some v => if v.category = 2 then none else some v
  | none => none
def lct : List (Option Value) → Nat → List (Option Value)
  | [], _ => []
  | o :: L, 0 => o :: L
  | o :: L, 1 => lno o :: L
  | o :: L, n + 2 => o :: lct L (n + 1)
def ls1 (L : List (Option Value)) (i : Nat) (v : Value) : List (Option Value) := lst (lct L i) i (some v)
def ls2 (L : List (Option Value)) (i : Nat) (v : Value) : List (Option Value) := lst (lst (lct L i) i (some v)) (i + 1) none
def LH (ls : Array Slot) (n : Nat) (L : List (Option Value)) : Prop := ls.size = n ∧ lv_wf ls ∧ ∀ (i : Nat) (v : Value), lgt L i = some v → ls[i]? = some (.val v)
theorem lgt_lst : ∀ (L : List (Option Value)) (i j : Nat) (v : Option Value) (u : Value), lgt (lst L i v) j = some u → (j = i ∧ v = some u) ∨ (j ≠ i ∧ lgt L j = some u)
  | [], i, j, v, u, h => by simp [lst, lgt] at h
  | o :: L, 0, 0, v, u, h => Or.inl ⟨rfl, h⟩
  | o :: L, 0, j + 1, v, u, h => Or.inr ⟨by omega, h⟩
  | o :: L, i + 1, 0, v, u, h => Or.inr ⟨by omega, h⟩
  | o :: L, i + 1, j + 1, v, u, h => by
    rcases lgt_lst L i j v u h with ⟨a, b⟩ | ⟨a, b⟩
    · exact Or.inl ⟨by omega, b⟩
    · exact Or.inr ⟨by omega, b⟩
theorem lno_some {o : Option Value} {u : Value} (h : lno o = some u) : o = some u ∧ ¬ u.category = 2 := by
  cases o with
  | none => cases h
  | some v =>
    by_cases hv : v.category = 2
    · simp [lno, hv] at h
    · simp [lno, hv] at h
      subst h
      exact ⟨rfl, hv⟩
theorem lgt_lct : ∀ (L : List (Option Value)) (i j : Nat) (u : Value), lgt (lct L i) j = some u → lgt L j = some u ∧ ¬ (j + 1 = i ∧ u.category = 2)
  | [], i, j, u, h => by simp [lct, lgt] at h
  | o :: L, 0, j, u, h => ⟨h, fun q => by omega⟩
  | o :: L, 1, 0, u, h => ⟨(lno_some h).1, fun q => (lno_some h).2 q.2⟩
  | o :: L, 1, j + 1, u, h => ⟨h, fun q => by omega⟩
  | o :: L, i + 2, 0, u, h => ⟨h, fun q => by omega⟩
  | o :: L, i + 2, j + 1, u, h => by
    obtain ⟨a, b⟩ := lgt_lct L (i + 1) j u h
    exact ⟨a, fun q => b ⟨by omega, q.2⟩⟩
def lpr (L : List (Option Value)) : List (Nat × Value) := (List.range L.length).filterMap fun i => (lgt L i).map fun v => (i, v)
theorem lgt_lt : ∀ (L : List (Option Value)) (i : Nat) (v : Value), lgt L i = some v → i < L.length
  | [], i, v, h => by simp [lgt] at h
  | o :: L, 0, v, h => by simp
  | o :: L, i + 1, v, h => by have := lgt_lt L i v h; simp; omega
theorem lpr_mem {L : List (Option Value)} {q : Nat × Value} : q ∈ lpr L ↔ lgt L q.1 = some q.2 := by
  obtain ⟨i, v⟩ := q
  constructor
  · intro h
    obtain ⟨k, -, hk⟩ := List.mem_filterMap.mp h
    cases hg : lgt L k with
    | none => rw [hg] at hk; cases hk
    | some w => rw [hg] at hk; cases hk; exact hg
  · intro h
    exact List.mem_filterMap.mpr ⟨i, List.mem_range.mpr (lgt_lt L i v h), by rw [h]; rfl⟩
theorem LH.has {ls : Array Slot} {n : Nat} {L : List (Option Value)} (h : LH ls n L) : lv_has ls n (lpr L) := ⟨h.1, h.2.1, fun q hq => h.2.2 q.1 q.2 (lpr_mem.mp hq)⟩
theorem LH.at {ls : Array Slot} {n : Nat} {L : List (Option Value)} (h : LH ls n L) {i : Nat} {v : Value} (hi : lgt L i = some v) : ls[i]? = some (.val v) := h.2.2 i v hi
theorem LH.st1 {ls : Array Slot} {n i : Nat} {v : Value} {L : List (Option Value)} (h : lv_has ls n ((i, v) :: (lpr L).filter (fun q => !(q.1 == i) && !(q.1 + 1 == i && q.2.category == 2)))) : LH ls n (ls1 L i v) := by
  refine ⟨h.1, h.2.1, fun j u hj => ?_⟩
  rcases lgt_lst _ _ _ _ _ hj with ⟨rfl, hv⟩ | ⟨hne, hj⟩
  · cases hv
    exact h.2.2 (j, v) List.mem_cons_self
  · obtain ⟨a, b⟩ := lgt_lct _ _ _ _ hj
    refine h.2.2 (j, u) (List.mem_cons_of_mem _ (List.mem_filter.mpr ⟨lpr_mem.mpr a, ?_⟩))
    simp only [Bool.and_eq_true, Bool.not_eq_true', beq_eq_false_iff_ne, ne_eq, Bool.and_eq_false_iff]
    refine ⟨hne, ?_⟩
    by_cases h1 : j + 1 = i
    · exact Or.inr fun h2 => b ⟨h1, h2⟩
    · exact Or.inl h1
theorem LH.st2 {ls : Array Slot} {n i : Nat} {v : Value} {L : List (Option Value)} (h : lv_has ls n ((i, v) :: (lpr L).filter (fun q => !(q.1 == i) && (!(q.1 == i + 1) && !(q.1 + 1 == i && q.2.category == 2))))) : LH ls n (ls2 L i v) := by
  refine ⟨h.1, h.2.1, fun j u hj => ?_⟩
  rcases lgt_lst _ _ _ _ _ hj with ⟨rfl, hv⟩ | ⟨hne1, hj⟩
  · cases hv
  rcases lgt_lst _ _ _ _ _ hj with ⟨rfl, hv⟩ | ⟨hne, hj⟩
  · cases hv
    exact h.2.2 (j, v) List.mem_cons_self
  · obtain ⟨a, b⟩ := lgt_lct _ _ _ _ hj
    refine h.2.2 (j, u) (List.mem_cons_of_mem _ (List.mem_filter.mpr ⟨lpr_mem.mpr a, ?_⟩))
    simp only [Bool.and_eq_true, Bool.not_eq_true', beq_eq_false_iff_ne, ne_eq, Bool.and_eq_false_iff]
    refine ⟨hne, hne1, ?_⟩
    by_cases h1 : j + 1 = i
    · exact Or.inr fun h2 => b ⟨h1, h2⟩
    · exact Or.inl h1
def lle : List (Option Value) → List (Option Value) → Prop
  | [], _ => True
  | none :: A, _ :: B => lle A B
  | none :: A, [] => lle A []
  | some v :: A, o :: B => o = some v ∧ lle A B
  | some _ :: _, [] => False
theorem lle_at : ∀ (A B : List (Option Value)) (i : Nat) (v : Value), lle A B → lgt A i = some v → lgt B i = some v
  | [], _, i, v, _, h => by simp [lgt] at h
  | none :: A, _ :: B, 0, v, _, h => by cases h
  | none :: A, _ :: B, i + 1, v, hl, h => lle_at A B i v hl h
  | none :: A, [], 0, v, _, h => by cases h
  | none :: A, [], i + 1, v, hl, h => by have := lle_at A [] i v hl h; simp [lgt] at this
  | some u :: A, o :: B, 0, v, hl, h => by cases h; exact hl.1
  | some u :: A, o :: B, i + 1, v, hl, h => lle_at A B i v hl.2 h
  | some _ :: _, [], i, v, hl, h => hl.elim
def lpos : List Value → Nat → List (Option Value)
  | [], n => List.replicate n none
  | v :: vs, n => if v.category = 2 then some v :: none :: lpos vs (n - 2) else some v :: lpos vs (n - 1)
theorem lgt_rep : ∀ (n i : Nat) (v : Value), lgt (List.replicate n none) i = some v → False
  | 0, i, v, h => by simp [lgt] at h
  | n + 1, 0, v, h => by simp [List.replicate, lgt] at h
  | n + 1, i + 1, v, h => lgt_rep n i v h
theorem lpos_args : ∀ (vs : List Value) (n k i : Nat) (v : Value), lgt (lpos vs n) i = some v → (k + i, v) ∈ lv_args k vs
  | [], n, k, i, v, h => (lgt_rep n i v h).elim
  | w :: vs, n, k, i, v, h => by
    unfold lpos at h
    by_cases hw : w.category = 2
    · rw [if_pos hw] at h
      simp only [lv_args, if_pos hw]
      match i, h with
      | 0, h => cases h; exact List.mem_cons_self
      | 1, h => cases h
      | i + 2, h =>
        have := lpos_args vs (n - 2) (k + 2) i v h
        rw [show k + (i + 2) = k + 2 + i by omega]
        exact List.mem_cons_of_mem _ this
    · rw [if_neg hw] at h
      simp only [lv_args, if_neg hw]
      match i, h with
      | 0, h => cases h; exact List.mem_cons_self
      | i + 1, h =>
        have := lpos_args vs (n - 1) (k + 1) i v h
        rw [show k + (i + 1) = k + 1 + i by omega]
        exact List.mem_cons_of_mem _ this
theorem LH.entry (vs : List Value) {n : Nat} (h : (lg_sl vs).length ≤ n) : LH ((lg_sl vs ++ List.replicate (n - (lg_sl vs).length) Slot.unset).toArray) n (lpos vs n) := by
  have q := lv_entry vs h
  refine ⟨q.1, q.2.1, fun i v hi => ?_⟩
  have := lpos_args vs n 0 i v hi
  rw [Nat.zero_add] at this
  exact q.2.2 (i, v) this
