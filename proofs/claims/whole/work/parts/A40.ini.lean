/-! rows at the beginning -/
def r0 (k : Nat) : Int32 := if k = 1 then nI 4 else if k = 2 then nI 2 else if k = 3 then nI 9 else if k = 4 then nI 30 else nI 0
theorem r0_E : ∀ k, k < 16 → (0 : Int32) = sE r0 k := by decide
theorem r0_B : ∀ k, k < 8 → (0 : Int32) = sB r0 k := by decide
theorem r0_T : ∀ k, k < 5 → upd (upd (upd (upd (upd (fun _ => 0) 0 (nI 4)) 1 (nI 2)) 2 (nI 9)) 3 (nI 30)) 4 (nI 0) k = sT r0 k := by decide
def kTo (n : Nat) : Nat → Int32 := fun k => if k < n then nI 1000 else 0
theorem kTo_0 : kTo 0 = fun _ => 0 := by funext k; unfold kTo; rw [if_neg (by omega)]
theorem kTo_s {n : Nat} : upd (kTo n) n (nI 1000) = kTo (n + 1) := by
  funext k
  rw [upd_at]
  unfold kTo
  by_cases h : k = n
  · rw [if_pos h, if_pos (by omega)]
  · rw [if_neg h]
    by_cases h2 : k < n
    · rw [if_pos h2, if_pos (by omega)]
    · rw [if_neg h2, if_neg (by omega)]
theorem r0_G : ∀ k, k < 64 → kTo 64 k = sG r0 k := by decide
theorem r0_OK : rowOK r0 := by
  refine ⟨⟨⟨0, by omega, rfl⟩, fun k hk => ⟨0, by omega, ?_⟩, fun k hk hp => ?_⟩, fun k h1 h2 => ⟨0, by omega, ?_⟩, fun k hk => ⟨0, Or.inl rfl, ?_⟩, ⟨4, by omega, rfl⟩, ⟨2, by omega, rfl⟩, ⟨9, by omega, rfl⟩, ⟨30, by omega, rfl⟩, ⟨0, by omega, rfl⟩⟩
  · unfold r0; rw [if_neg (by omega), if_neg (by omega), if_neg (by omega), if_neg (by omega)]
  · exfalso; apply hp; unfold r0; rw [if_neg (by omega), if_neg (by omega), if_neg (by omega), if_neg (by omega)]; decide
  · unfold r0; rw [if_neg (by omega), if_neg (by omega), if_neg (by omega), if_neg (by omega)]
  · unfold r0; rw [if_neg (by omega), if_neg (by omega), if_neg (by omega), if_neg (by omega)]
