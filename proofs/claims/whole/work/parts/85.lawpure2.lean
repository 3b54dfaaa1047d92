theorem lw_and31 (x : Int32) : ∃ k : Nat, k < 32 ∧ x &&& nI 31 = nI k := by
  refine ⟨(x.toBitVec &&& 31#32).toNat, ?_, ?_⟩
  · rw [BitVec.toNat_and]
    exact Nat.lt_of_le_of_lt Nat.and_le_right (by decide)
  · apply Int32.toBitVec.inj
    rw [Int32.toBitVec_and]
    show x.toBitVec &&& 31#32 = BitVec.ofNat 32 _
    rw [BitVec.ofNat_toNat, BitVec.setWidth_eq]
theorem lw_gt {j L : Nat} (h1 : L < 4 * j + 4) (h2 : 4 * j ≤ L) (hL : L ≤ 2048) : nI L - nI 4 < nI (4 * j) := by
  rcases Nat.lt_or_ge L 4 with q | q
  · have hj : j = 0 := by omega
    subst hj
    rcases (show L = 0 ∨ L = 1 ∨ L = 2 ∨ L = 3 by omega) with rfl | rfl | rfl | rfl <;> decide
  · rw [pk_sub q]
    exact (nI_ltI (by omega) (by omega)).mpr (by omega)
theorem lw_ngt {j L : Nat} (h1 : 4 * j + 4 ≤ L) (hL : L ≤ 2048) : ¬ nI L - nI 4 < nI (4 * j) := by
  rw [pk_sub (by omega)]
  exact fun z => absurd ((nI_ltI (by omega) (by omega)).mp z) (by omega)
theorem lw_arr {args : Array Value} {s : State} {ty : FieldType} (h : (Cond.arrayClass ty).before args s = true) : ∃ cA : ClassId, ArrOfT s cA ty ∧ s.vm.findClass ("[" ++ ty.toString) = some cA := by
  obtain ⟨cA, kA, comp, h1, h2, h3⟩ := Cond.arrayClass_spec h
  exact ⟨cA, fun n z => ⟨fun k h => (by cases h), kA, h2, comp, h3⟩, h1⟩
