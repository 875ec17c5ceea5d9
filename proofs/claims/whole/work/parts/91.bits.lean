/-! how many letters are known -/
def us (x y : Int32) : Int32 := (x.toUInt32 >>> (y.toUInt32 &&& Int32.toUInt32 31)).toInt32
def bc1 (x : Int32) : Int32 := x - (us x (nI 1) &&& 1431655765)
def bc2 (x : Int32) : Int32 := (x &&& 858993459) + (us x (nI 2) &&& 858993459)
def bc3 (x : Int32) : Int32 := (x + us x (nI 4)) &&& 252645135
def bc4 (x : Int32) : Int32 := x + us x (nI 8)
def bc5 (x : Int32) : Int32 := x + us x (nI 16)
def bcI (x : Int32) : Int32 := bc5 (bc4 (bc3 (bc2 (bc1 x)))) &&& nI 63
theorem bcI_ones : ∀ m, m < 256 → bcI (nI m) = onesTo (nI m) 8 := by decide +kernel
