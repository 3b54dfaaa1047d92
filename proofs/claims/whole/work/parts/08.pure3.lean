/-! Numbers: the reader. bs: the bits of the bytes, 0 behind the last. -/
def BS (C : Nat → Nat) (has : Nat) (bs : Nat → Nat) : Prop := ∀ p, bs p = if p < 8 * has then C (p / 8) / 2 ^ (7 - p % 8) % 2 else 0
theorem BS_2 {C bs : Nat → Nat} {has : Nat} (h : BS C has bs) (p : Nat) : bs p < 2 := by
  rw [h p]
  split
  · exact Nat.mod_lt _ (by decide)
  · decide
theorem BS_cpy {B C bs : Nat → Nat} {nb : Nat} (h : BS B nb bs) : BS (ncpy B C 0 0 nb) nb bs := by
  intro p
  rw [h p]
  by_cases q : p < 8 * nb
  · rw [if_pos q, if_pos q, show ncpy B C 0 0 nb (p / 8) = B (p / 8) from by unfold ncpy; rw [if_pos (by omega)]; congr 1; omega]
  · rw [if_neg q, if_neg q]
/-- range, offset, place -/
abbrev R3 : Type := Nat × Nat × Nat
def rsh (bs : Nat → Nat) : Nat → R3 → R3
  | 0, x => x
  | k + 1, x => if x.1 < 256 then rsh bs k (2 * x.1, 2 * x.2.1 + bs x.2.2, x.2.2 + 1) else x
theorem rsh_ge (bs : Nat → Nat) (k : Nat) {x : R3} (h : 256 ≤ x.1) : rsh bs k x = x := by
  cases k with
  | zero => rfl
  | succ k => simp only [rsh]; rw [if_neg (by omega)]
theorem rsh_lt (bs : Nat → Nat) (k : Nat) {x : R3} (h : x.1 < 256) : rsh bs (k + 1) x = rsh bs k (2 * x.1, 2 * x.2.1 + bs x.2.2, x.2.2 + 1) := by simp only [rsh]; rw [if_pos h]
theorem rsh_more (bs : Nat → Nat) : ∀ (k j : Nat) (x : R3), 256 ≤ x.1 * 2 ^ k → rsh bs (k + j) x = rsh bs k x
  | 0, j, x, hk => by rw [rsh_ge _ _ (by simpa using hk), rsh_ge _ _ (by simpa using hk)]
  | k + 1, j, x, hk => by
    by_cases hr : x.1 < 256
    · rw [show k + 1 + j = (k + j) + 1 from by omega, rsh_lt _ _ hr, rsh_lt _ _ hr]
      exact rsh_more bs k j _ (by
        show 256 ≤ 2 * x.1 * 2 ^ k
        rw [Nat.pow_succ] at hk
        have : 2 * x.1 * 2 ^ k = x.1 * (2 ^ k * 2) := by simp only [Nat.mul_comm, Nat.mul_left_comm, Nat.mul_assoc]
        omega)
    · rw [rsh_ge _ _ (by omega), rsh_ge _ _ (by omega)]
theorem rsh_in (bs : Nat → Nat) (hb : ∀ p, bs p < 2) : ∀ (k : Nat) (x : R3), x.2.1 < x.1 → x.1 < 512 → 256 ≤ x.1 * 2 ^ k → (rsh bs k x).2.1 < (rsh bs k x).1 ∧ (rsh bs k x).1 < 512 ∧ 256 ≤ (rsh bs k x).1 ∧ (rsh bs k x).2.2 ≤ x.2.2 + k
  | 0, x, h1, h2, hk => ⟨h1, h2, by show 256 ≤ x.1; simpa using hk, Nat.le_refl _⟩
  | k + 1, x, h1, h2, hk => by
    by_cases hr : x.1 < 256
    · rw [rsh_lt _ _ hr]
      have hb1 := hb x.2.2
      obtain ⟨a, b, c, d⟩ := rsh_in bs hb k (2 * x.1, 2 * x.2.1 + bs x.2.2, x.2.2 + 1) (by show 2 * x.2.1 + bs x.2.2 < 2 * x.1; omega) (by show 2 * x.1 < 512; omega) (by
        show 256 ≤ 2 * x.1 * 2 ^ k
        rw [Nat.pow_succ] at hk
        have : 2 * x.1 * 2 ^ k = x.1 * (2 ^ k * 2) := by simp only [Nat.mul_comm, Nat.mul_left_comm, Nat.mul_assoc]
        omega)
      exact ⟨a, b, c, by have : (rsh bs k (2 * x.1, 2 * x.2.1 + bs x.2.2, x.2.2 + 1)).2.2 ≤ x.2.2 + 1 + k := d; omega⟩
    · rw [rsh_ge _ _ (by omega)]
      exact ⟨h1, h2, by omega, by omega⟩
/-- a decision is read: the bin, and what is behind it -/
def rdB (rg of r lk : Nat) : Nat := if of < rg - r then lk else 1 - lk
def rdX (bs : Nat → Nat) (x : R3) (r : Nat) : R3 := if x.2.1 < x.1 - r then rsh bs 7 (x.1 - r, x.2.1, x.2.2) else rsh bs 7 (r, x.2.1 - (x.1 - r), x.2.2)
theorem rdB_2 {rg of r lk : Nat} (h : lk < 2) : rdB rg of r lk < 2 := by unfold rdB; split <;> omega
theorem rdX_in {bs : Nat → Nat} (hb : ∀ p, bs p < 2) {rg of pl r rg1 of1 pl1 : Nat} (he : (rg1, of1, pl1) = rdX bs (rg, of, pl) r) (h1 : of < rg) (h2 : rg < 512) (h3 : 6 ≤ r) (h4 : r + 4 ≤ rg) : of1 < rg1 ∧ rg1 < 512 ∧ 256 ≤ rg1 ∧ pl1 ≤ pl + 7 := by
  unfold rdX at he
  by_cases q : of < rg - r
  · rw [if_pos q] at he
    have h := rsh_in bs hb 7 (rg - r, of, pl) q (by show rg - r < 512; omega) (by show 256 ≤ (rg - r) * 2 ^ 7; omega)
    rw [← he] at h
    exact h
  · rw [if_neg q] at he
    have h := rsh_in bs hb 7 (r, of - (rg - r), pl) (by show of - (rg - r) < r; omega) (by show r < 512; omega) (by show 256 ≤ r * 2 ^ 7; omega)
    rw [← he] at h
    exact h
/-- a bin that goes by is read -/
def ryB (bs : Nat → Nat) (x : R3) : Nat := if 2 * x.2.1 + bs x.2.2 < x.1 then 0 else 1
def ryX (bs : Nat → Nat) (x : R3) : R3 := if 2 * x.2.1 + bs x.2.2 < x.1 then (x.1, 2 * x.2.1 + bs x.2.2, x.2.2 + 1) else (x.1, 2 * x.2.1 + bs x.2.2 - x.1, x.2.2 + 1)
theorem ryX_in {bs : Nat → Nat} (hb : ∀ p, bs p < 2) {rg of pl rg1 of1 pl1 : Nat} (he : (rg1, of1, pl1) = ryX bs (rg, of, pl)) (h1 : of < rg) : of1 < rg1 ∧ rg1 = rg ∧ pl1 = pl + 1 := by
  have hb1 := hb pl
  unfold ryX at he
  by_cases q : 2 * of + bs pl < rg
  · rw [if_pos q] at he
    cases he
    exact ⟨q, rfl, rfl⟩
  · rw [if_neg q] at he
    cases he
    exact ⟨by show 2 * of + bs pl - rg < rg; omega, rfl, rfl⟩
theorem ryB_2 (bs : Nat → Nat) (x : R3) : ryB bs x < 2 := by unfold ryB; split <;> omega
/-- are the powers of a number's bins 1 too great together -/
def grt (o k : Nat) : Prop := 65535 < 2 ^ k - 2 ^ o
/-- the bins 1 ahead of a number: the next power, and what is behind them -/
def rones (bs : Nat → Nat) (o : Nat) : Nat → Nat → R3 → Nat × R3
  | 0, k, x => (k, x)
  | f + 1, k, x => if 65535 < 2 ^ k - 2 ^ o then (k, x) else if ryB bs x = 1 then rones bs o f (k + 1) (ryX bs x) else (k, ryX bs x)
/-- k bins as a number, behind v -/
def rlow (bs : Nat → Nat) : Nat → Nat → R3 → Nat × R3
  | 0, v, x => (v, x)
  | k + 1, v, x => rlow bs k (2 * v + ryB bs x) (ryX bs x)
/-- a number of an order: it (or what stands for a wrong one), is it right, what is behind it -/
def rgolE (o : Nat) (y : Nat × R3) (q : Nat × R3) : Nat × Nat × R3 := if 65535 < 2 ^ y.1 - 2 ^ o then (100000, 0, y.2) else if 65535 < 2 ^ y.1 - 2 ^ o + q.1 then (100000, 0, q.2) else (2 ^ y.1 - 2 ^ o + q.1, 1, q.2)
def rgol (bs : Nat → Nat) (o : Nat) (x : R3) : Nat × Nat × R3 := rgolE o (rones bs o 18 o x) (rlow bs (rones bs o 18 o x).1 0 (rones bs o 18 o x).2)
/-- the reader's numbers with the contexts -/
abbrev Z5 : Type := R3 × (Nat → Nat) × (Nat → Nat)
def rdcB (z : Z5) (ct : Nat) : Nat := rdB z.1.1 z.1.2.1 (Rt (4 * z.2.1 ct + z.1.1 / 64 % 4)) (z.2.2 ct)
def rdcX (bs : Nat → Nat) (z : Z5) (ct : Nat) : Z5 := (rdX bs z.1 (Rt (4 * z.2.1 ct + z.1.1 / 64 % 4)), lS z.2.1 z.2.2 ct (rdcB z ct), lL z.2.1 z.2.2 ct (rdcB z ct))
/-- a count, f more bins at the most -/
def rcnt (bs : Nat → Nat) (ca : Nat) : Nat → Nat → Z5 → Nat × Z5
  | 0, n, z => (n, z)
  | f + 1, n, z => if rdcB z (ca + min n 3) = 1 then rcnt bs ca f (n + 1) (rdcX bs z (ca + min n 3)) else (n, rdcX bs z (ca + min n 3))
/-- the number of the first k bits -/
def rtk (bs : Nat → Nat) : Nat → Nat
  | 0 => 0
  | k + 1 => 2 * rtk bs k + bs k
theorem rtk_in {bs : Nat → Nat} (hb : ∀ p, bs p < 2) : ∀ k, rtk bs k < 2 ^ k
  | 0 => by show 0 < 2 ^ 0; decide
  | k + 1 => by
    have h := rtk_in hb k
    have h1 := hb k
    show 2 * rtk bs k + bs k < 2 ^ (k + 1)
    rw [Nat.pow_succ]
    omega
/-- a mark or the end -/
def rmark (bs : Nat → Nat) (x : R3) : R3 := if x.2.1 < x.1 - 2 then rsh bs 7 (x.1 - 2, x.2.1, x.2.2) else (x.1 - 2, x.2.1, x.2.2)
theorem rmark_in {bs : Nat → Nat} (hb : ∀ p, bs p < 2) {rg of pl rg1 of1 pl1 : Nat} (he : (rg1, of1, pl1) = rmark bs (rg, of, pl)) (h0 : of < rg - 2) (h2 : rg < 512) (h4 : 256 ≤ rg) : of1 < rg1 ∧ rg1 < 512 ∧ 256 ≤ rg1 ∧ pl1 ≤ pl + 7 := by
  unfold rmark at he
  rw [if_pos h0] at he
  have h := rsh_in bs hb 7 (rg - 2, of, pl) h0 (by show rg - 2 < 512; omega) (by show 256 ≤ (rg - 2) * 2 ^ 7; omega)
  rw [← he] at h
  exact h
theorem rones_g (bs : Nat → Nat) {o k : Nat} (f : Nat) (x : R3) (h : 65535 < 2 ^ k - 2 ^ o) : rones bs o f k x = (k, x) := by
  cases f with
  | zero => rfl
  | succ f => simp only [rones]; rw [if_pos h]
theorem rones_1 (bs : Nat → Nat) {o k f : Nat} {x : R3} (h : ¬ 65535 < 2 ^ k - 2 ^ o) (h1 : ryB bs x = 1) : rones bs o (f + 1) k x = rones bs o f (k + 1) (ryX bs x) := by
  simp only [rones]; rw [if_neg h, if_pos h1]
theorem rones_0 (bs : Nat → Nat) {o k f : Nat} {x : R3} (h : ¬ 65535 < 2 ^ k - 2 ^ o) (h1 : ryB bs x ≠ 1) : rones bs o (f + 1) k x = (k, ryX bs x) := by
  simp only [rones]; rw [if_neg h, if_neg h1]
theorem rgol_w1 {bs : Nat → Nat} {o k : Nat} {x x1 : R3} (h : rones bs o 18 o x = (k, x1)) (h1 : 65535 < 2 ^ k - 2 ^ o) : rgol bs o x = (100000, 0, x1) := by
  unfold rgol rgolE; rw [h, if_pos h1]
theorem rgol_w2 {bs : Nat → Nat} {o k v : Nat} {x x1 x2 : R3} (h : rones bs o 18 o x = (k, x1)) (h2 : rlow bs k 0 x1 = (v, x2)) (h1 : ¬ 65535 < 2 ^ k - 2 ^ o) (h3 : 65535 < 2 ^ k - 2 ^ o + v) : rgol bs o x = (100000, 0, x2) := by
  unfold rgol rgolE; rw [h, h2, if_neg h1, if_pos h3]
theorem rgol_ok {bs : Nat → Nat} {o k v : Nat} {x x1 x2 : R3} (h : rones bs o 18 o x = (k, x1)) (h2 : rlow bs k 0 x1 = (v, x2)) (h1 : ¬ 65535 < 2 ^ k - 2 ^ o) (h3 : ¬ 65535 < 2 ^ k - 2 ^ o + v) : rgol bs o x = (2 ^ k - 2 ^ o + v, 1, x2) := by
  unfold rgol rgolE; rw [h, h2, if_neg h1, if_neg h3]
theorem rlow_p (bs : Nat → Nat) {k v : Nat} (x : R3) (h : 0 < k) : rlow bs k v x = rlow bs (k - 1) (2 * v + ryB bs x) (ryX bs x) := by
  obtain ⟨j, rfl⟩ : ∃ j, k = j + 1 := ⟨k - 1, by omega⟩
  rfl
theorem rcnt_1 (bs : Nat → Nat) {ca f n : Nat} {z : Z5} (h1 : rdcB z (ca + min n 3) = 1) : rcnt bs ca (f + 1) n z = rcnt bs ca f (n + 1) (rdcX bs z (ca + min n 3)) := by
  simp only [rcnt]; rw [if_pos h1]
theorem rcnt_0 (bs : Nat → Nat) {ca f n : Nat} {z : Z5} (h1 : rdcB z (ca + min n 3) ≠ 1) : rcnt bs ca (f + 1) n z = (n, rdcX bs z (ca + min n 3)) := by
  simp only [rcnt]; rw [if_neg h1]
theorem pw17 {k : Nat} (h : k ≤ 17) : 2 ^ k ≤ 131072 := Nat.pow_le_pow_right (by decide) h
