/-- the floats' laws are wanted from here on -/
theorem zz_wide {x : UInt64} (h : FP.Core.val64 x ≠ .nan) : FP.dmul x FP.dconst1 = x := FP.Core.dmul_one h
