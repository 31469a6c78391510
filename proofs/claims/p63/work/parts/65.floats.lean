def fpOK (x : UInt64) : Bool := decide (x &&& 0x7fffffffffffffff ≤ 0x7ff0000000000000) && decide (Op.cmpValue (FP.dcmp x x) .l = 0)
def fpOK2 (x : UInt32) : Bool := decide (x &&& 0x7fffffff ≤ 0x7f800000) && decide (Op.cmpValue (FP.fcmp x x) .l = 0)
set_option maxRecDepth 100000 in
theorem shaE : ∀ s < 13, ∀ c < 13, c = 0 ∨ fpOK2 (FP.fdiv (FP.i2f (nI s)) (FP.i2f (nI c))) = true := by decide +kernel
set_option maxRecDepth 100000 in
theorem meaE : ∀ s < 1200, ∀ c < 13, c = 0 ∨ fpOK (FP.ddiv (FP.i2d (nI s)) (FP.i2d (nI c))) = true := by decide +kernel
