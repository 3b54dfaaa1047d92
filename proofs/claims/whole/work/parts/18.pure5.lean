/-- a number that is read, with its sign where it has one -/
def gval (zb u : Nat) : Int32 := if zb = 0 ∨ u = 100000 then nI u else wsg u
theorem rgol_le (bs : Nat → Nat) (o : Nat) (x : R3) : (rgol bs o x).1 ≤ 65535 ∨ (rgol bs o x).1 = 100000 := by
  unfold rgol rgolE
  split
  · exact Or.inr rfl
  · split
    · exact Or.inr rfl
    · rename_i h1 h2
      exact Or.inl (by omega)
theorem rmark_all {bs : Nat → Nat} (hb : ∀ p, bs p < 2) {rg of pl rg1 of1 pl1 : Nat} (he : (rg1, of1, pl1) = rmark bs (rg, of, pl)) (h1 : of < rg) (h2 : rg < 512) (h4 : 256 ≤ rg) : (of < rg - 2 → of1 < rg1 ∧ rg1 < 512 ∧ 256 ≤ rg1) ∧ pl1 ≤ pl + 7 ∧ rg1 < 1000 ∧ of1 < 1000 := by
  by_cases q : of < rg - 2
  · obtain ⟨a, b, c, d⟩ := rmark_in hb he q h2 h4
    exact ⟨fun _ => ⟨a, b, c⟩, by omega, by omega, by omega⟩
  · unfold rmark at he
    rw [if_neg q] at he
    cases he
    refine ⟨fun z => absurd z q, ?_, ?_, ?_⟩ <;> dsimp only <;> omega
theorem tb_out {x : Int32} (h : ¬ inR x 7 = true) : x.toInt < 0 ∨ 6 < x.toInt := by
  have h1 : ¬ (0 ≤ x.toInt ∧ x.toInt < ((7 : Nat) : Int)) := fun z => h (decide_eq_true z)
  omega
