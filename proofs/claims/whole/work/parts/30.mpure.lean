/-! The reference's own numbers: the digits of the whole low, three rows of contexts in one. -/
def dg (T S : Nat) : Nat → Nat := fun k => if k ≤ S + 9 then T / 2 ^ (S + 9 - k) % 2 else 0
theorem dg_dbl (T S : Nat) : dg T S = dg (2 * T) (S + 1) := by
  funext k
  unfold dg
  by_cases h : k ≤ S + 9
  · rw [if_pos h, if_pos (by omega), show S + 1 + 9 - k = (S + 9 - k) + 1 from by omega, Nat.pow_succ, Nat.mul_comm (2 ^ (S + 9 - k)) 2, Nat.mul_div_mul_left _ _ (by decide)]
  · rw [if_neg h]
    by_cases h2 : k ≤ S + 1 + 9
    · rw [if_pos h2, show S + 1 + 9 - k = 0 from by omega]
      omega
    · rw [if_neg h2]
/-- .. while v is being added, i digits done -/
def dgm (T v S i : Nat) : Nat → Nat := fun k => if k ≤ S + 9 then (if S + 9 - k < i then (T + v) / 2 ^ (S + 9 - k) % 2 else T / 2 ^ (S + 9 - k) % 2) else 0
theorem dgm_0 (T v S : Nat) : dg T S = dgm T v S 0 := by
  funext k
  unfold dg dgm
  simp
theorem dgm_s {T v S j d : Nat} (hj : 0 < j) (hj2 : j ≤ S + 10) (hd : d = (T + v) / 2 ^ (S + 10 - j) % 2) : nu (dgm T v S (S + 10 - j)) (j - 1) d = dgm T v S (S + 10 - (j - 1)) := by
  funext k
  by_cases h : k = j - 1
  · rw [h, nu_s, hd]
    unfold dgm
    rw [if_pos (by omega), if_pos (by omega), show S + 9 - (j - 1) = S + 10 - j from by omega]
  · rw [nu_n h]
    unfold dgm
    by_cases h1 : k ≤ S + 9
    · rw [if_pos h1, if_pos h1]
      by_cases h2 : S + 9 - k < S + 10 - j
      · rw [if_pos h2, if_pos (by omega)]
      · rw [if_neg h2, if_neg (by omega)]
    · rw [if_neg h1, if_neg h1]
theorem dgm_at {T v S j : Nat} (hj : 0 < j) (hj2 : j ≤ S + 10) : dgm T v S (S + 10 - j) (j - 1) = T / 2 ^ (S + 10 - j) % 2 := by
  unfold dgm
  rw [if_pos (by omega), if_neg (by omega), show S + 9 - (j - 1) = S + 10 - j from by omega]
theorem dgm_all (T v S : Nat) : dgm T v S (S + 10 - 0) = dg (T + v) S := by
  funext k
  unfold dgm dg
  by_cases h : k ≤ S + 9
  · rw [if_pos h, if_pos h, if_pos (by omega)]
  · rw [if_neg h, if_neg h]
theorem dgm_end {T v S i : Nat} (h : (T + v) / 2 ^ i = T / 2 ^ i) : dgm T v S i = dg (T + v) S := by
  funext k
  unfold dgm dg
  by_cases h1 : k ≤ S + 9
  · rw [if_pos h1, if_pos h1]
    by_cases h2 : S + 9 - k < i
    · rw [if_pos h2]
    · rw [if_neg h2, show S + 9 - k = i + (S + 9 - k - i) from by omega, Nat.pow_add, ← Nat.div_div_eq_div_mul, ← Nat.div_div_eq_div_mul, h]
  · rw [if_neg h1, if_neg h1]
theorem dv_s (a i : Nat) : a / 2 ^ (i + 1) = a / 2 ^ i / 2 := by rw [Nat.pow_succ, Nat.div_div_eq_div_mul]
theorem add_s {T v i cr : Nat} (h : (T + v) / 2 ^ i = T / 2 ^ i + v / 2 ^ i + cr) : (T + v) / 2 ^ (i + 1) = T / 2 ^ (i + 1) + v / 2 ^ (i + 1) + (T / 2 ^ i % 2 + v / 2 ^ i % 2 + cr) / 2 ∧ (T + v) / 2 ^ i % 2 = (T / 2 ^ i % 2 + v / 2 ^ i % 2 + cr) % 2 := by
  rw [dv_s, dv_s, dv_s, h]
  omega
theorem dgm_2 (T v S i k : Nat) : dgm T v S i k < 2 := by
  unfold dgm
  split
  · split <;> exact Nat.mod_lt _ (by decide)
  · decide
def stlh (h lo w : Nat) : Nat × Nat := if 2 * h ≤ lo then (lo - 2 * h, 0) else if lo < h then (lo, 0) else (lo - h, w + 1)
theorem stlh_512 (lo w : Nat) : stlh 512 lo w = stl lo w := rfl
theorem stlh_256 {lo w lo1 w1 : Nat} (h : (lo1, w1) = stlh 256 lo w) : (2 * lo1, w1) = stl (2 * lo) w := by
  unfold stlh at h
  unfold stl
  by_cases a : 512 ≤ lo
  · rw [if_pos (by omega)] at h
    rw [(Prod.mk.inj h).1, (Prod.mk.inj h).2, if_pos (by omega), show 2 * (lo - 2 * 256) = 2 * lo - 1024 from by omega]
  · by_cases b : lo < 256
    · rw [if_neg (by omega), if_pos b] at h
      rw [(Prod.mk.inj h).1, (Prod.mk.inj h).2, if_neg (by omega), if_pos (by omega)]
    · rw [if_neg (by omega), if_neg b] at h
      rw [(Prod.mk.inj h).1, (Prod.mk.inj h).2, if_neg (by omega), if_neg (by omega), show 2 * (lo - 256) = 2 * lo - 512 from by omega]
def m96 (a b c : Nat → Nat) : Nat → Nat := fun j => if j < 32 then a j else if j < 64 then b (j - 32) else c (j - 64)
theorem m96_0 {a b c : Nat → Nat} {k : Nat} (h : k < 32) : m96 a b c k = a k := by unfold m96; rw [if_pos h]
theorem m96_1 {a b c : Nat → Nat} {k : Nat} (h : k < 32) : m96 a b c (32 + k) = b k := by unfold m96; rw [if_neg (by omega), if_pos (by omega), show 32 + k - 32 = k from by omega]
theorem m96_2 {a b c : Nat → Nat} {k : Nat} : m96 a b c (64 + k) = c k := by unfold m96; rw [if_neg (by omega), if_neg (by omega), show 64 + k - 64 = k from by omega]
theorem m96_u0 {a b c : Nat → Nat} {k v : Nat} (h : k < 32) : nu (m96 a b c) k v = m96 (nu a k v) b c := by
  funext j
  by_cases q : j = k
  · rw [q, nu_s, m96_0 h, nu_s]
  · rw [nu_n q]; unfold m96; rw [nu_n q]
theorem m96_u1 {a b c : Nat → Nat} {k v : Nat} (h : k < 32) : nu (m96 a b c) (32 + k) v = m96 a (nu b k v) c := by
  funext j
  by_cases q : j = 32 + k
  · rw [q, nu_s, m96_1 h, nu_s]
  · rw [nu_n q]; unfold m96
    by_cases q1 : j < 32
    · rw [if_pos q1, if_pos q1]
    · by_cases q2 : j < 64
      · rw [if_neg q1, if_neg q1, if_pos q2, if_pos q2, nu_n (by omega)]
      · rw [if_neg q1, if_neg q1, if_neg q2, if_neg q2]
theorem m96_u2 {a b c : Nat → Nat} {k v : Nat} : nu (m96 a b c) (64 + k) v = m96 a b (nu c k v) := by
  funext j
  by_cases q : j = 64 + k
  · rw [q, nu_s, m96_2, nu_s]
  · rw [nu_n q]; unfold m96
    by_cases q1 : j < 32
    · rw [if_pos q1, if_pos q1]
    · by_cases q2 : j < 64
      · rw [if_neg q1, if_neg q1, if_pos q2, if_pos q2]
      · rw [if_neg q1, if_neg q1, if_neg q2, if_neg q2, nu_n (by omega)]
def lSm (S : Nat → Nat) (ci z : Nat) : Nat → Nat := if z = 1 then nu S ci (min (S ci + 1) 62) else nu S ci (Tt (S ci))
def lLm (S L : Nat → Nat) (ci z : Nat) : Nat → Nat := if z ≠ 1 ∧ S ci = 0 then nu L ci (1 - L ci) else L
theorem lSm_1 {a b c L : Nat → Nat} {k bin z : Nat} (h : k < 32) (hz : z = 1 ↔ bin = L k) : lSm (m96 a b c) (32 + k) z = m96 a (lS b L k bin) c := by
  unfold lSm lS
  rw [m96_1 h]
  by_cases q : z = 1
  · rw [if_pos q, if_pos (hz.mp q), m96_u1 h]
  · rw [if_neg q, if_neg (fun e => q (hz.mpr e)), m96_u1 h]
theorem lLm_1 {a b c d e f : Nat → Nat} {k bin z : Nat} (h : k < 32) (hz : z = 1 ↔ bin = e k) : lLm (m96 a b c) (m96 d e f) (32 + k) z = m96 d (lL b e k bin) f := by
  unfold lLm lL
  rw [m96_1 h, m96_1 h]
  by_cases q : z ≠ 1 ∧ b k = 0
  · rw [if_pos q, if_pos ⟨fun w => q.1 (hz.mpr w), q.2⟩, m96_u1 h]
  · rw [if_neg q, if_neg (fun w => q ⟨fun w2 => w.1 (hz.mp w2), w.2⟩)]
theorem lSm_2 {a b c L : Nat → Nat} {k bin z : Nat} (hz : z = 1 ↔ bin = L k) : lSm (m96 a b c) (64 + k) z = m96 a b (lS c L k bin) := by
  unfold lSm lS
  rw [m96_2]
  by_cases q : z = 1
  · rw [if_pos q, if_pos (hz.mp q), m96_u2]
  · rw [if_neg q, if_neg (fun e => q (hz.mpr e)), m96_u2]
theorem lLm_2 {a b c d e f : Nat → Nat} {k bin z : Nat} (hz : z = 1 ↔ bin = f k) : lLm (m96 a b c) (m96 d e f) (64 + k) z = m96 d e (lL c f k bin) := by
  unfold lLm lL
  rw [m96_2, m96_2]
  by_cases q : z ≠ 1 ∧ c k = 0
  · rw [if_pos q, if_pos ⟨fun w => q.1 (hz.mpr w), q.2⟩, m96_u2]
  · rw [if_neg q, if_neg (fun w => q ⟨fun w2 => w.1 (hz.mp w2), w.2⟩)]
/-- the first i of 32 places copied to the row from o on -/
def cps (S : Nat → Nat) (o i : Nat) : Nat → Nat := fun j => if o ≤ j ∧ j < o + i then S (j - o) else S j
theorem cps_0 (S : Nat → Nat) (o : Nat) : S = cps S o 0 := by
  funext j; unfold cps; rw [if_neg (by omega)]
theorem cps_s {S : Nat → Nat} {o i : Nat} (ho : 32 ≤ o) (hi : i < 32) : nu (cps S o i) (o + i) (cps S o i i) = cps S o (i + 1) := by
  funext j
  by_cases q : j = o + i
  · rw [q, nu_s]; unfold cps; rw [if_neg (by omega), if_pos (by omega), show o + i - o = i from by omega]
  · rw [nu_n q]; unfold cps
    by_cases q1 : o ≤ j ∧ j < o + i
    · rw [if_pos q1, if_pos (by omega)]
    · rw [if_neg q1, if_neg (by omega)]
theorem cps_32 (a b c : Nat → Nat) : cps (m96 a b c) 32 32 = m96 a a c := by
  funext j; unfold cps m96
  by_cases q : 32 ≤ j ∧ j < 32 + 32
  · rw [if_pos q, if_pos (show j - 32 < 32 by omega), if_neg (show ¬ j < 32 by omega), if_pos (by omega)]
  · rw [if_neg q]
    by_cases q1 : j < 32
    · rw [if_pos q1, if_pos q1]
    · rw [if_neg q1, if_neg q1, if_neg (by omega), if_neg (by omega)]
theorem cps_64 {a b c : Nat → Nat} : ∀ j, j < 96 → cps (m96 a b c) 64 32 j = m96 a b a j := by
  intro j hj; unfold cps m96
  by_cases q : 64 ≤ j ∧ j < 64 + 32
  · rw [if_pos q, if_pos (show j - 64 < 32 by omega), if_neg (show ¬ j < 32 by omega), if_neg (by omega)]
  · rw [if_neg q]
    by_cases q1 : j < 32
    · rw [if_pos q1, if_pos q1]
    · rw [if_neg q1, if_neg q1, if_pos (by omega), if_pos (by omega)]
