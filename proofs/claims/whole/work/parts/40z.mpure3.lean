theorem ngl {a b : Int32} (h : ¬ a < b) : b ≤ a := i32_le.mpr (by have : ¬ a.toInt < b.toInt := fun z => h (i32_lt.mpr z); omega)
theorem lgn {a b : Int32} (h : a < b) : ¬ b ≤ a := fun z => by have h1 := i32_lt.mp h; have h2 := i32_le.mp z; omega
