/-! the ring of states -/
def rgU (rh : Nat → Nat → Int32) (i : Nat) (r : Nat → Int32) : Nat → Nat → Int32 := fun k => if k = i then r else rh k
def vvU (vv : Nat → Int32) (i : Nat) : Nat → Int32 := fun k => if k = i then vv k + nI 1 else vv k
/-- a state is remembered: where the ring begins, how many are in it, their rows -/
def memR (fi pc : Nat) (rh : Nat → Nat → Int32) (r : Nat → Int32) : Nat × Nat × (Nat → Nat → Int32) := if 16 ≤ pc then ((fi + 1) % 16, 16, rgU rh (((fi + 1) % 16 + 15) % 16) r) else (fi, pc + 1, rgU rh ((fi + pc) % 16) r)
theorem lt16 {n : Nat} (h : n < 16) : n = 0 ∨ n = 1 ∨ n = 2 ∨ n = 3 ∨ n = 4 ∨ n = 5 ∨ n = 6 ∨ n = 7 ∨ n = 8 ∨ n = 9 ∨ n = 10 ∨ n = 11 ∨ n = 12 ∨ n = 13 ∨ n = 14 ∨ n = 15 := by omega
