/-! Numbers: bytes out of bits, the carry, one shift. -/
def pk (g m : Nat) : Nat → Nat := fun i => g * 2 ^ (8 * (i + 1)) / 2 ^ m % 256
theorem pw_le {a x y : Nat} (h : y ≤ x) : a * 2 ^ x / 2 ^ y = a * 2 ^ (x - y) := by
  rw [show x = (x - y) + y from by omega, Nat.pow_add, ← Nat.mul_assoc, Nat.mul_div_cancel _ (Nat.two_pow_pos y)]
  simp
theorem pw_gt {a x y : Nat} (h : x ≤ y) : a * 2 ^ x / 2 ^ y = a / 2 ^ (y - x) := by
  conv => lhs; rw [show y = (y - x) + x from by omega, Nat.pow_add]
  rw [Nat.mul_div_mul_right _ _ (Nat.two_pow_pos x)]
theorem pw_mod {a k : Nat} (h : 8 ≤ k) : a * 2 ^ k % 256 = 0 := by
  rw [show k = (k - 8) + 8 from by omega, Nat.pow_add, ← Nat.mul_assoc]
  exact Nat.mul_mod_left _ _
theorem pk_0 (g : Nat) : pk g 0 = fun _ => 0 := by
  funext i
  show g * 2 ^ (8 * (i + 1)) / 2 ^ 0 % 256 = 0
  rw [Nat.pow_zero, Nat.div_one]
  exact pw_mod (by omega)
/-- the byte that is being filled -/
theorem pk_at (g m : Nat) : pk g m (m / 8) = 2 ^ (8 - m % 8) * (g % 2 ^ (m % 8)) := by
  show g * 2 ^ (8 * (m / 8 + 1)) / 2 ^ m % 256 = _
  rw [pw_le (by omega), show 8 * (m / 8 + 1) - m = 8 - m % 8 from by omega, show (256 : Nat) = 2 ^ (8 - m % 8) * 2 ^ (m % 8) from by rw [← Nat.pow_add, show 8 - m % 8 + m % 8 = 8 from by omega], Nat.mul_comm g, Nat.mul_mod_mul_left]
theorem pk_step {g m b : Nat} (hb : b < 2) : pk (2 * g + b) (m + 1) = nu (pk g m) (m / 8) (pk g m (m / 8) + b * 2 ^ (7 - m % 8)) := by
  funext i
  by_cases hi : i = m / 8
  · subst hi
    rw [nu_s, pk_at]
    show (2 * g + b) * 2 ^ (8 * (m / 8 + 1)) / 2 ^ (m + 1) % 256 = _
    rw [pw_le (by omega), show 8 * (m / 8 + 1) - (m + 1) = 7 - m % 8 from by omega, Nat.add_mul, show 2 * g * 2 ^ (7 - m % 8) = 2 ^ (8 - m % 8) * g from by
      rw [show 8 - m % 8 = (7 - m % 8) + 1 from by omega, Nat.pow_succ, Nat.mul_comm (2 ^ (7 - m % 8) * 2) g, Nat.mul_comm (2 ^ (7 - m % 8)) 2, ← Nat.mul_assoc, Nat.mul_comm g 2]]
    have h256 : (256 : Nat) = 2 ^ (8 - m % 8) * 2 ^ (m % 8) := by rw [← Nat.pow_add, show 8 - m % 8 + m % 8 = 8 from by omega]
    have hlt : b * 2 ^ (7 - m % 8) < 2 ^ (8 - m % 8) := by
      rw [show 8 - m % 8 = (7 - m % 8) + 1 from by omega, Nat.pow_succ, Nat.mul_comm b]
      exact Nat.mul_lt_mul_of_pos_left hb (Nat.two_pow_pos _)
    rw [h256, Nat.mod_mul, Nat.mul_add_mod, Nat.mod_eq_of_lt hlt, Nat.mul_add_div (Nat.two_pow_pos _), Nat.div_eq_of_lt hlt, Nat.add_zero, Nat.add_comm]
  · rw [nu_n hi]
    show (2 * g + b) * 2 ^ (8 * (i + 1)) / 2 ^ (m + 1) % 256 = g * 2 ^ (8 * (i + 1)) / 2 ^ m % 256
    by_cases hlo : 8 * (i + 1) ≤ m
    · rw [pw_gt (by omega), pw_gt hlo, show m + 1 - 8 * (i + 1) = 1 + (m - 8 * (i + 1)) from by omega, Nat.pow_add, ← Nat.div_div_eq_div_mul, show (2 * g + b) / 2 ^ 1 = g from by omega]
    · have h9 : m + 9 ≤ 8 * (i + 1) := by omega
      rw [pw_le (by omega), pw_le (by omega), pw_mod (by omega), pw_mod (by omega)]
theorem nx_or (a b : Nat) : nI a ||| nI b = nI (a ||| b) := by
  apply Int32.toBitVec_inj.mp
  rw [Int32.toBitVec_or]
  show (Int32.ofNat a).toBitVec ||| (Int32.ofNat b).toBitVec = (Int32.ofNat (a ||| b)).toBitVec
  rw [Int32.toBitVec_ofNat', Int32.toBitVec_ofNat', Int32.toBitVec_ofNat']
  apply BitVec.eq_of_toNat_eq
  simp [BitVec.toNat_or, Nat.or_mod_two_pow]
theorem pk_or {g m b : Nat} (hb : b < 2) : nI (pk g m (m / 8)) ||| nI (b * 2 ^ (7 - m % 8)) = nI (pk g m (m / 8) + b * 2 ^ (7 - m % 8)) := by
  have hlt : b * 2 ^ (7 - m % 8) < 2 ^ (8 - m % 8) := by
    rw [show 8 - m % 8 = (7 - m % 8) + 1 from by omega, Nat.pow_succ, Nat.mul_comm b]
    exact Nat.mul_lt_mul_of_pos_left hb (Nat.two_pow_pos _)
  rw [nx_or, pk_at, Nat.two_pow_add_eq_or_of_lt hlt]
theorem sh_lt {b k : Nat} (hb : b < 2) (hk : k ≤ 7) : b * 2 ^ k < 4294967296 := by
  have h1 : 2 ^ k ≤ 2 ^ 7 := Nat.pow_le_pow_right (by decide) hk
  have h2 : b * 2 ^ k ≤ 1 * 2 ^ 7 := Nat.mul_le_mul (by omega) h1
  omega
/-- a bit given over the bits G, i of those that waited behind it -/
def gv (G i b : Nat) : Nat := (2 * G + b) * 2 ^ i + (1 - b) * (2 ^ i - 1)
theorem gv_0 (G b : Nat) : gv G 0 b = 2 * G + b := by simp [gv]
theorem gv_s (G i b : Nat) (hb : b < 2) : gv G (i + 1) b = 2 * gv G i b + (1 - b) := by
  have h1 : 1 ≤ 2 ^ i := Nat.one_le_two_pow
  rcases (show b = 0 ∨ b = 1 by omega) with rfl | rfl
  · simp only [gv, Nat.pow_succ]; simp only [Nat.add_zero, Nat.sub_zero, Nat.one_mul]
    rw [← Nat.mul_assoc]; omega
  · simp only [gv, Nat.pow_succ]; simp only [Nat.sub_self, Nat.zero_mul, Nat.add_zero]
    rw [← Nat.mul_assoc]; omega
/-- low's top bit is settled: what low and the waiting bits are then -/
def stl (lo2 w : Nat) : Nat × Nat := if 1024 ≤ lo2 then (lo2 - 1024, 0) else if lo2 < 512 then (lo2, 0) else (lo2 - 512, w + 1)
/-- .. with the bits that were given -/
def stlP (lo2 w G n lo1 w1 G1 n1 : Nat) : Prop := (1024 ≤ lo2 ∧ lo1 = lo2 - 1024 ∧ w1 = 0 ∧ G1 = gv G w 1 ∧ n1 = n + 1 + w) ∨ (lo2 < 512 ∧ lo1 = lo2 ∧ w1 = 0 ∧ G1 = gv G w 0 ∧ n1 = n + 1 + w) ∨ (512 ≤ lo2 ∧ lo2 < 1024 ∧ lo1 = lo2 - 512 ∧ w1 = w + 1 ∧ G1 = G ∧ n1 = n)
/-- the whole low T, by the n bits G that are settled, w bits that wait, and the register lo -/
def JJ (T G n S w lo : Nat) : Prop := T = G * 2 ^ (w + 10) + 512 * (2 ^ w - 1) + lo ∧ n + w = S ∧ lo < 1024 ∧ G < 2 ^ n
theorem stlP_eq {lo2 w G n lo1 w1 G1 n1 : Nat} (h : stlP lo2 w G n lo1 w1 G1 n1) : (lo1, w1) = stl lo2 w := by
  unfold stl
  unfold stlP at h
  rcases h with ⟨a, h1, h2, -, -⟩ | ⟨a, h1, h2, -, -⟩ | ⟨a, b, h1, h2, -, -⟩ <;> rw [h1, h2]
  · rw [if_pos a]
  · rw [if_neg (by omega), if_pos a]
  · rw [if_neg (by omega), if_neg (by omega)]
theorem JJ_step {T G n S w lo lo2 v lo1 w1 G1 n1 : Nat} (h : JJ T G n S w lo) (h2 : lo2 = 2 * lo + v) (h3 : lo2 < 2048) (hs : stlP lo2 w G n lo1 w1 G1 n1) : JJ (2 * T + v) G1 n1 (S + 1) w1 lo1 := by
  obtain ⟨hT, hn, hlo, hG⟩ := h
  have hp : 1 ≤ 2 ^ w := Nat.one_le_two_pow
  have e1 : 2 ^ (w + 10) = 1024 * 2 ^ w := by rw [Nat.pow_add, Nat.mul_comm]
  have e2 : 2 ^ (n + 1 + w) = 2 * (2 ^ n * 2 ^ w) := by rw [Nat.pow_add, Nat.pow_succ, Nat.mul_comm (2 ^ n), Nat.mul_assoc]
  have hGw : (G + 1) * 2 ^ w ≤ 2 ^ n * 2 ^ w := Nat.mul_le_mul_right _ hG
  rw [e1, show G * (1024 * 2 ^ w) = 1024 * (G * 2 ^ w) from Nat.mul_left_comm _ _ _] at hT
  rw [Nat.add_mul, Nat.one_mul] at hGw
  generalize hX : 2 ^ w = X at *
  generalize hY : G * X = Y at *
  generalize hZ : 2 ^ n * X = Z at *
  unfold stlP at hs
  unfold JJ
  rcases hs with ⟨a, k1, k2, k3, k4⟩ | ⟨a, k1, k2, k3, k4⟩ | ⟨a, b, k1, k2, k3, k4⟩ <;> rw [k2, k3, k4]
  · have e3 : gv G w 1 = 2 * Y + X := by simp only [gv, hX, Nat.sub_self, Nat.zero_mul, Nat.add_zero, Nat.add_mul, Nat.one_mul]; rw [Nat.mul_assoc, hY]
    refine ⟨?_, by omega, by omega, ?_⟩
    · rw [e3]; simp only [Nat.zero_add, Nat.pow_zero, Nat.sub_self, Nat.mul_zero, Nat.add_zero]; omega
    · rw [e3, e2]; omega
  · have e3 : gv G w 0 = 2 * Y + (X - 1) := by simp only [gv, hX, Nat.sub_zero, Nat.one_mul, Nat.add_zero]; rw [Nat.mul_assoc, hY]
    refine ⟨?_, by omega, by omega, ?_⟩
    · rw [e3]; simp only [Nat.zero_add, Nat.pow_zero, Nat.sub_self, Nat.mul_zero, Nat.add_zero]; omega
    · rw [e3, e2]; omega
  · refine ⟨?_, by omega, by omega, hG⟩
    have e4 : G * 2 ^ (w + 1 + 10) = 2048 * Y := by rw [Nat.pow_add, Nat.pow_succ, hX, ← hY]; rw [show (2 : Nat) ^ 10 = 1024 from rfl]; simp only [Nat.mul_assoc, Nat.mul_comm, Nat.mul_left_comm]
    have e5 : 2 ^ (w + 1) = 2 * X := by rw [Nat.pow_succ, hX, Nat.mul_comm]
    rw [e4, e5]; omega
/-- T, shifts, waiting, low, range -/
abbrev W5 : Type := Nat × Nat × Nat × Nat × Nat
def ash1 (x : W5) : W5 := (2 * x.1, x.2.1 + 1, (stl (2 * x.2.2.2.1) x.2.2.1).2, (stl (2 * x.2.2.2.1) x.2.2.1).1, 2 * x.2.2.2.2)
def ash : Nat → W5 → W5
  | 0, x => x
  | k + 1, x => if x.2.2.2.2 < 256 then ash k (ash1 x) else x
theorem ash_ge (k : Nat) {x : W5} (h : 256 ≤ x.2.2.2.2) : ash k x = x := by
  cases k with
  | zero => rfl
  | succ k => simp only [ash]; rw [if_neg (by omega)]
theorem ash_lt (k : Nat) {x : W5} (h : x.2.2.2.2 < 256) : ash (k + 1) x = ash k (ash1 x) := by simp only [ash]; rw [if_pos h]
