/-! The reference's octets, one bit after another. -/
def opk (O : Nat → Nat) (y g m : Nat) : Nat → Nat := fun j => if j < y then pk g m j else O j
theorem opk_s {O : Nat → Nat} {y g m b : Nat} (hb : b < 2) (hm : m / 8 < y) : nu (opk O y g m) (m / 8) (opk O y g m (m / 8) + b * 2 ^ (7 - m % 8)) = opk O y (2 * g + b) (m + 1) := by
  funext j
  have e : opk O y g m (m / 8) = pk g m (m / 8) := by unfold opk; rw [if_pos hm]
  rw [e]
  unfold opk
  rw [pk_step hb]
  by_cases h : j = m / 8
  · rw [h, nu_s, if_pos hm, nu_s]
  · rw [nu_n h, nu_n h]
def zfl (O : Nat → Nat) (i : Nat) : Nat → Nat := fun j => if j < i then 0 else O j
theorem zfl_0 (O : Nat → Nat) : O = zfl O 0 := by
  funext j; unfold zfl; rw [if_neg (by omega)]
theorem zfl_s (O : Nat → Nat) (i : Nat) : nu (zfl O i) i 0 = zfl O (i + 1) := by
  funext j
  by_cases h : j = i
  · rw [h, nu_s]; unfold zfl; rw [if_pos (by omega)]
  · rw [nu_n h]; unfold zfl
    by_cases h2 : j < i
    · rw [if_pos h2, if_pos (by omega)]
    · rw [if_neg h2, if_neg (by omega)]
theorem zfl_p (O : Nat → Nat) (y g : Nat) : zfl O y = opk O y g 0 := by
  funext j; unfold zfl opk; rw [pk_0]
theorem zfl_d {O : Nat → Nat} : ∀ j, j < 2600 → zfl O 2600 j = dg 0 0 j := by
  intro j hj; unfold zfl dg
  rw [if_pos hj]
  split
  · rw [Nat.zero_div]
  · rfl
/-- bit k of the stream -/
theorem bit_k {V m k : Nat} (h : k < m) : V / 2 ^ (m - (k + 1)) = 2 * (V / 2 ^ (m - k)) + V / 2 ^ (m - (k + 1)) % 2 := by
  rw [show m - k = (m - (k + 1)) + 1 from by omega, dv_s]
  omega
theorem odd_half (a n : Nat) : (2 * a + 1) / 2 ^ (n + 1) = a / 2 ^ n := by
  rw [Nat.pow_succ, Nat.mul_comm (2 ^ n) 2, ← Nat.div_div_eq_div_mul]
  congr 1
  omega
theorem bit_in {T S k : Nat} (h : k < S + 1) : (2 * (T / 256) + 1) / 2 ^ (S + 2 - (k + 1)) % 2 = dg T S (k + 1) := by
  unfold dg
  rw [if_pos (by omega), show S + 2 - (k + 1) = (S - k) + 1 from by omega, odd_half, show (256 : Nat) = 2 ^ 8 from rfl, Nat.div_div_eq_div_mul, ← Nat.pow_add, show 8 + (S - k) = S + 9 - (k + 1) from by omega]
theorem bit_last (a m : Nat) : (2 * a + 1) / 2 ^ (m - m) % 2 = 1 := by
  rw [Nat.sub_self, Nat.pow_zero, Nat.div_one]
  omega
theorem dg_2 (T S k : Nat) : dg T S k < 2 := by
  unfold dg
  split
  · exact Nat.mod_lt _ (by decide)
  · decide
theorem ncpy_0 (f g : Nat → Nat) : g = ncpy f g 0 0 0 := by
  funext j; unfold ncpy; rw [if_neg (by omega)]
theorem ncpy_s (f g : Nat → Nat) (i : Nat) : nu (ncpy f g 0 0 i) i (f i) = ncpy f g 0 0 (i + 1) := by
  funext j
  by_cases h : j = i
  · rw [h, nu_s]; unfold ncpy; rw [if_pos (by omega), show 0 + (i - 0) = i from by omega]
  · rw [nu_n h]; unfold ncpy
    by_cases h2 : j < i
    · rw [if_pos (by omega), if_pos (by omega)]
    · rw [if_neg (by omega), if_neg (by omega)]
theorem sgn_neg2 {v : Int32} (h1 : v ≤ 0) (h2 : ¬ v < (-32767)) : nI 0 - nI 2 * v = nI (sgnN v) := by
  rw [← sgn_neg h1 h2]
  show (0 : Int32) - 2 * v = (-2) * v
  rw [Int32.zero_sub, Int32.neg_mul]
theorem sub0 (x : Int32) : nI 0 - x = -x := Int32.zero_sub x
