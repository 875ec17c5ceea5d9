/-! the book -/
def enterR (bo bt bs : Nat → Int32) (wr : Nat) (c d g : Int32) : Bool × (Nat → Int32) × (Nat → Int32) × (Nat → Int32) × Nat := if wr < 20 then (true, upd bo wr c, upd bt wr d, upd bs wr g, wr + 1) else (false, bo, bt, bs, wr)
