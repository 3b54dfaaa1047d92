/-! The reference's tables, one line after another. -/
def ptk (k : Nat) : Nat → Nat := fun j => if j < 4 * k then Rt j else 0
def ttk (k : Nat) : Nat → Nat := fun j => if j < k then Tt j else 0
theorem ptk_0 : (fun _ => 0) = ptk 0 := by funext j; unfold ptk; rw [if_neg (by omega)]
theorem ttk_0 : (fun _ => 0) = ttk 0 := by funext j; unfold ttk; rw [if_neg (by omega)]
theorem ptk_s {k a b c d : Nat} (ha : a = Rt (4 * k)) (hb : b = Rt (4 * k + 1)) (hc : c = Rt (4 * k + 2)) (hd : d = Rt (4 * k + 3)) : nu (nu (nu (nu (ptk k) (4 * k) a) (4 * k + 1) b) (4 * k + 2) c) (4 * k + 3) d = ptk (k + 1) := by
  funext j
  by_cases h3 : j = 4 * k + 3
  · rw [h3, nu_s, hd]; unfold ptk; rw [if_pos (by omega)]
  rw [nu_n h3]
  by_cases h2 : j = 4 * k + 2
  · rw [h2, nu_s, hc]; unfold ptk; rw [if_pos (by omega)]
  rw [nu_n h2]
  by_cases h1 : j = 4 * k + 1
  · rw [h1, nu_s, hb]; unfold ptk; rw [if_pos (by omega)]
  rw [nu_n h1]
  by_cases h0 : j = 4 * k
  · rw [h0, nu_s, ha]; unfold ptk; rw [if_pos (by omega)]
  rw [nu_n h0]
  unfold ptk
  by_cases h : j < 4 * k
  · rw [if_pos h, if_pos (by omega)]
  · rw [if_neg h, if_neg (by omega)]
theorem ttk_s {k a : Nat} (ha : a = Tt k) : nu (ttk k) k a = ttk (k + 1) := by
  funext j
  by_cases h3 : j = k
  · rw [h3, nu_s, ha]; unfold ttk; rw [if_pos (by omega)]
  rw [nu_n h3]
  unfold ttk
  by_cases h : j < k
  · rw [if_pos h, if_pos (by omega)]
  · rw [if_neg h, if_neg (by omega)]
