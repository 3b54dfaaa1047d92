theorem uL0 (f : Nat → Int64) (x : Int64) : vp_updL f (nI 0).toNatClampNeg x 0 = x := by
  rw [nI_clamp (by decide)]; exact pk_uLs
theorem i64_1 : (nI 1).toInt64 = 1 := by decide
theorem i64_0 : (nI 0).toInt64 = 0 := by decide
