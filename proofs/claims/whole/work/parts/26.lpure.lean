theorem uL0 (f : Nat → Int64) (x : Int64) : vp_updL f (nI 0).toNatClampNeg x 0 = x := by
  rw [nI_clamp (by decide)]; exact pk_uLs
theorem i64_1 : (nI 1).toInt64 = 1 := by decide
theorem i64_0 : (nI 0).toInt64 = 0 := by decide
theorem bl_a {P : Prop} [Decidable P] {rv : Int32} {a b : Prop} (h : if P then rv = nI 1 ∧ a else rv = nI 0 ∧ b) (hn : ¬ rv = 0) : rv.toInt64 = 1 := by
  split at h
  · rw [h.1]; decide
  · exact absurd (by rw [h.1]; decide) hn
theorem bl_b {P : Prop} [Decidable P] {rv : Int32} {a b : Prop} (h : if P then rv = nI 0 ∧ a else rv = nI 1 ∧ b) (hn : ¬ rv = 0) : rv.toInt64 = 1 := by
  split at h
  · exact absurd (by rw [h.1]; decide) hn
  · rw [h.1]; decide
