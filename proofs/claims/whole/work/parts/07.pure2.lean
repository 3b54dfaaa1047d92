/-! Numbers: a context learns; decisions, bins that go by; numbers as bins. -/
theorem wk_ext {D : va_G} {cl : List vw_C} {ws : va_W} {H : Heap} {a n : Nat} {cA : ClassId} {f g : Nat → Nat} {A : Nat → Prop} (k : Nat) (ha : ws[k]? = some (a, .inl (cA, n, .inl (ai f)))) (h : ∀ j, j < n → f j = g j) (hD : va_D A ws) (hP : va_P D cl ws H) : va_P D cl (ws.set k (a, .inl (cA, n, .inl (ai g)))) H := by
  refine hP.set hD ha ?_ (fun q _ => rfl)
  show H[a]? = some (vp_cell cA (n, .inl (ai g)))
  have h1 : H[a]? = some (vp_cell cA (n, .inl (ai f))) := hP k _ ha
  rw [h1, vp_cell_i, vp_cell_i]
  have h2 : (Array.ofFn (n := n) fun j => Value.int (ai f j.val)) = Array.ofFn (n := n) fun j => Value.int (ai g j.val) := by
    congr 1
    funext j
    show Value.int (nI (f j.val)) = Value.int (nI (g j.val))
    rw [h j.val j.isLt]
  unfold arrV
  rw [h2]
def lS (S L : Nat → Nat) (ct b : Nat) : Nat → Nat := if b = L ct then nu S ct (min (S ct + 1) 62) else nu S ct (Tt (S ct))
def lL (S L : Nat → Nat) (ct b : Nat) : Nat → Nat := if b ≠ L ct ∧ S ct = 0 then nu L ct (1 - L ct) else L
theorem lS_in {S L : Nat → Nat} {ct b : Nat} (hS : ∀ j, j < 32 → S j < 63) (hc : ct < 32) : ∀ j, j < 32 → lS S L ct b j < 63 := by
  intro j hj
  unfold lS nu
  have h1 := Tt_in (S ct) (hS ct hc)
  have h2 := hS j hj
  split <;> (dsimp only; split <;> omega)
theorem lL_in {S L : Nat → Nat} {ct b : Nat} (hL : ∀ j, j < 32 → L j < 2) (hc : ct < 32) : ∀ j, j < 32 → lL S L ct b j < 2 := by
  intro j hj
  unfold lL nu
  have h2 := hL j hj
  have h3 := hL ct hc
  split
  · dsimp only; split <;> omega
  · exact h2
theorem JJ_add {T G n S w lo v : Nat} (h : JJ T G n S w lo) (h2 : lo + v < 1024) : JJ (T + v) G n S w (lo + v) := by
  obtain ⟨h1, h3, h4, h5⟩ := h
  exact ⟨by omega, h3, h2, h5⟩
theorem JJ_lt {T G n S w lo : Nat} (h : JJ T G n S w lo) : T < 2 ^ (S + 10) := by
  obtain ⟨h1, h3, h4, h5⟩ := h
  have hp : 1 ≤ 2 ^ w := Nat.one_le_two_pow
  have e1 : 2 ^ (w + 10) = 1024 * 2 ^ w := by rw [Nat.pow_add, Nat.mul_comm]
  have e2 : 2 ^ (S + 10) = 1024 * (2 ^ n * 2 ^ w) := by rw [← h3, Nat.pow_add, Nat.pow_add, Nat.mul_comm]
  have h6 : (G + 1) * 2 ^ w ≤ 2 ^ n * 2 ^ w := Nat.mul_le_mul_right _ h5
  rw [Nat.add_mul, Nat.one_mul] at h6
  rw [e1, show G * (1024 * 2 ^ w) = 1024 * (G * 2 ^ w) from Nat.mul_left_comm _ _ _] at h1
  rw [e2]
  generalize 2 ^ w = X at *
  generalize G * X = Y at *
  generalize 2 ^ n * X = Z at *
  omega
theorem stl_in {lo2 w r : Nat} (h : lo2 + r ≤ 2048) (hr : r ≤ 512) (h2 : lo2 < 2048) : (stl lo2 w).1 + r ≤ 1024 ∧ (stl lo2 w).1 < 1024 ∧ (stl lo2 w).2 ≤ w + 1 := by
  unfold stl
  split
  · refine ⟨?_, ?_, ?_⟩ <;> simp only <;> omega
  · split
    · refine ⟨?_, ?_, ?_⟩ <;> simp only <;> omega
    · refine ⟨?_, ?_, ?_⟩ <;> simp only <;> omega
/-- what holds between two calls: low and range within the register -/
def AI (x : W5) : Prop := x.2.2.2.1 + x.2.2.2.2 ≤ 1024 ∧ x.2.2.2.2 < 512 ∧ x.2.2.2.1 < 1024 ∧ x.2.2.1 ≤ x.2.1
theorem ash1_in {x : W5} (h : AI x) (hr : x.2.2.2.2 < 256) : AI (ash1 x) := by
  obtain ⟨h1, h2, h3, h4⟩ := h
  obtain ⟨a, b, c⟩ := stl_in (lo2 := 2 * x.2.2.2.1) (w := x.2.2.1) (r := 2 * x.2.2.2.2) (by omega) (by omega) (by omega)
  refine ⟨a, ?_, b, ?_⟩
  · show 2 * x.2.2.2.2 < 512; omega
  · show (stl (2 * x.2.2.2.1) x.2.2.1).2 ≤ x.2.1 + 1; omega
theorem ash_in : ∀ (k : Nat) (x : W5), AI x → 256 ≤ x.2.2.2.2 * 2 ^ k → AI (ash k x) ∧ 256 ≤ (ash k x).2.2.2.2 ∧ x.2.1 ≤ (ash k x).2.1 ∧ (ash k x).2.1 ≤ x.2.1 + k
  | 0, x, h, hk => ⟨h, by show 256 ≤ x.2.2.2.2; simpa using hk, Nat.le_refl _, Nat.le_refl _⟩
  | k + 1, x, h, hk => by
    by_cases hr : x.2.2.2.2 < 256
    · rw [ash_lt k hr]
      obtain ⟨a, b, c, d⟩ := ash_in k (ash1 x) (ash1_in h hr) (by
        show 256 ≤ 2 * x.2.2.2.2 * 2 ^ k
        rw [Nat.pow_succ] at hk
        have : 2 * x.2.2.2.2 * 2 ^ k = x.2.2.2.2 * (2 ^ k * 2) := by simp only [Nat.mul_comm, Nat.mul_left_comm, Nat.mul_assoc]
        omega)
      refine ⟨a, b, ?_, ?_⟩
      · have : (ash1 x).2.1 = x.2.1 + 1 := rfl
        omega
      · have : (ash1 x).2.1 = x.2.1 + 1 := rfl
        omega
    · rw [ash_ge _ (by omega)]
      exact ⟨h, by omega, Nat.le_refl _, by omega⟩
theorem ash_more : ∀ (k j : Nat) (x : W5), 256 ≤ x.2.2.2.2 * 2 ^ k → ash (k + j) x = ash k x
  | 0, j, x, hk => by rw [ash_ge _ (by simpa using hk), ash_ge _ (by simpa using hk)]
  | k + 1, j, x, hk => by
    by_cases hr : x.2.2.2.2 < 256
    · rw [show k + 1 + j = (k + j) + 1 from by omega, ash_lt _ hr, ash_lt _ hr]
      exact ash_more k j (ash1 x) (by
        show 256 ≤ 2 * x.2.2.2.2 * 2 ^ k
        rw [Nat.pow_succ] at hk
        have : 2 * x.2.2.2.2 * 2 ^ k = x.2.2.2.2 * (2 ^ k * 2) := by simp only [Nat.mul_comm, Nat.mul_left_comm, Nat.mul_assoc]
        omega)
    · rw [ash_ge _ (by omega), ash_ge _ (by omega)]
/-- a decision, r the part of the unlikely bin -/
def adec (x : W5) (r : Nat) (likely : Bool) : W5 := ash 7 (if likely then (x.1, x.2.1, x.2.2.1, x.2.2.2.1, x.2.2.2.2 - r) else (x.1 + (x.2.2.2.2 - r), x.2.1, x.2.2.1, x.2.2.2.1 + (x.2.2.2.2 - r), r))
theorem adec_in {x : W5} {r : Nat} {b : Bool} (h : AI x) (h1 : 6 ≤ r) (h2 : r + 4 ≤ x.2.2.2.2) : AI (adec x r b) ∧ 256 ≤ (adec x r b).2.2.2.2 ∧ x.2.1 ≤ (adec x r b).2.1 ∧ (adec x r b).2.1 ≤ x.2.1 + 6 := by
  obtain ⟨a1, a2, a3, a4⟩ := h
  unfold adec
  cases b with
  | true =>
    simp only [if_true]
    rw [show (7 : Nat) = 6 + 1 from rfl, ash_more 6 1 _ (by show 256 ≤ (x.2.2.2.2 - r) * 2 ^ 6; omega)]
    exact ash_in 6 _ ⟨by show x.2.2.2.1 + (x.2.2.2.2 - r) ≤ 1024; omega, by show x.2.2.2.2 - r < 512; omega, a3, a4⟩ (by show 256 ≤ (x.2.2.2.2 - r) * 2 ^ 6; omega)
  | false =>
    simp only [Bool.false_eq_true, if_false]
    rw [show (7 : Nat) = 6 + 1 from rfl, ash_more 6 1 _ (by show 256 ≤ r * 2 ^ 6; omega)]
    exact ash_in 6 _ ⟨by show x.2.2.2.1 + (x.2.2.2.2 - r) + r ≤ 1024; omega, by show r < 512; omega, by show x.2.2.2.1 + (x.2.2.2.2 - r) < 1024; omega, a4⟩ (by show 256 ≤ r * 2 ^ 6; omega)
/-- a mark -/
def amark (x : W5) : W5 := ash 7 (x.1, x.2.1, x.2.2.1, x.2.2.2.1, x.2.2.2.2 - 2)
theorem amark_in {x : W5} (h : AI x) (h2 : 256 ≤ x.2.2.2.2) : AI (amark x) ∧ 256 ≤ (amark x).2.2.2.2 ∧ x.2.1 ≤ (amark x).2.1 ∧ (amark x).2.1 ≤ x.2.1 + 6 := by
  obtain ⟨a1, a2, a3, a4⟩ := h
  unfold amark
  rw [show (7 : Nat) = 6 + 1 from rfl, ash_more 6 1 _ (by show 256 ≤ (x.2.2.2.2 - 2) * 2 ^ 6; omega)]
  exact ash_in 6 _ ⟨by show x.2.2.2.1 + (x.2.2.2.2 - 2) ≤ 1024; omega, by show x.2.2.2.2 - 2 < 512; omega, a3, a4⟩ (by show 256 ≤ (x.2.2.2.2 - 2) * 2 ^ 6; omega)
/-- the end, ahead of its last three bits -/
def aend (x : W5) : W5 := ash 7 (x.1 + (x.2.2.2.2 - 2), x.2.1, x.2.2.1, x.2.2.2.1 + (x.2.2.2.2 - 2), 2)
theorem aend_in {x : W5} (h : AI x) (h2 : 256 ≤ x.2.2.2.2) : AI (aend x) ∧ 256 ≤ (aend x).2.2.2.2 ∧ x.2.1 ≤ (aend x).2.1 ∧ (aend x).2.1 ≤ x.2.1 + 7 := by
  obtain ⟨a1, a2, a3, a4⟩ := h
  unfold aend
  exact ash_in 7 _ ⟨by show x.2.2.2.1 + (x.2.2.2.2 - 2) + 2 ≤ 1024; omega, by show 2 < 512; omega, by show x.2.2.2.1 + (x.2.2.2.2 - 2) < 1024; omega, a4⟩ (by show 256 ≤ 2 * 2 ^ 7; omega)
/-- a bin that goes by -/
def abyp (x : W5) (b : Nat) : W5 := (2 * x.1 + b * x.2.2.2.2, x.2.1 + 1, (stl (2 * x.2.2.2.1 + b * x.2.2.2.2) x.2.2.1).2, (stl (2 * x.2.2.2.1 + b * x.2.2.2.2) x.2.2.1).1, x.2.2.2.2)
theorem abyp_in {x : W5} {b : Nat} (hb : b < 2) (h : AI x) : AI (abyp x b) ∧ (abyp x b).2.2.2.2 = x.2.2.2.2 ∧ (abyp x b).2.1 = x.2.1 + 1 := by
  obtain ⟨a1, a2, a3, a4⟩ := h
  have hm : b * x.2.2.2.2 ≤ x.2.2.2.2 := by rcases (show b = 0 ∨ b = 1 by omega) with rfl | rfl <;> omega
  obtain ⟨a, b1, c⟩ := stl_in (lo2 := 2 * x.2.2.2.1 + b * x.2.2.2.2) (w := x.2.2.1) (r := x.2.2.2.2) (by omega) (by omega) (by omega)
  exact ⟨⟨a, a2, b1, by show (stl (2 * x.2.2.2.1 + b * x.2.2.2.2) x.2.2.1).2 ≤ x.2.1 + 1; omega⟩, rfl, rfl⟩
/-- k bins 1 -/
def aones : Nat → W5 → W5
  | 0, x => x
  | k + 1, x => abyp (aones k x) 1
/-- the k lowest bits of v, the highest first -/
def alow (v : Nat) : Nat → W5 → W5
  | 0, x => x
  | k + 1, x => alow v k (abyp x (v / 2 ^ k % 2))
/-- a number u of an order -/
def agol (o u : Nat) (x : W5) : W5 := alow (u + 2 ^ o) (Nat.log2 (u + 2 ^ o)) (abyp (aones (Nat.log2 (u + 2 ^ o) - o) x) 0)
theorem aones_in : ∀ (k : Nat) (x : W5), AI x → AI (aones k x) ∧ (aones k x).2.2.2.2 = x.2.2.2.2 ∧ (aones k x).2.1 = x.2.1 + k
  | 0, x, h => ⟨h, rfl, rfl⟩
  | k + 1, x, h => by
    obtain ⟨a, b, c⟩ := aones_in k x h
    obtain ⟨a1, b1, c1⟩ := abyp_in (b := 1) (by decide) a
    exact ⟨a1, b1.trans b, by show (abyp (aones k x) 1).2.1 = _; rw [c1, c]; rfl⟩
theorem alow_in (v : Nat) : ∀ (k : Nat) (x : W5), AI x → AI (alow v k x) ∧ (alow v k x).2.2.2.2 = x.2.2.2.2 ∧ (alow v k x).2.1 = x.2.1 + k
  | 0, x, h => ⟨h, rfl, rfl⟩
  | k + 1, x, h => by
    obtain ⟨a1, b1, c1⟩ := abyp_in (b := v / 2 ^ k % 2) (Nat.mod_lt _ (by decide)) h
    obtain ⟨a, b, c⟩ := alow_in v k _ a1
    exact ⟨a, b.trans b1, by show (alow v k (abyp x (v / 2 ^ k % 2))).2.1 = _; rw [c, c1]; omega⟩
theorem alow_eq {u v : Nat} : ∀ (k : Nat) (x : W5), (∀ i, i < k → u / 2 ^ i % 2 = v / 2 ^ i % 2) → alow u k x = alow v k x
  | 0, _, _ => rfl
  | k + 1, x, h => by
    show alow u k (abyp x (u / 2 ^ k % 2)) = alow v k (abyp x (v / 2 ^ k % 2))
    rw [h k (Nat.lt_succ_self k)]
    exact alow_eq k _ (fun i hi => h i (by omega))
/-- how many bins a number takes -/
def gbins (o u : Nat) : Nat := (Nat.log2 (u + 2 ^ o) - o) + 1 + Nat.log2 (u + 2 ^ o)
theorem nu_all {f : Nat → Nat} {i v : Nat} (h : ∀ j, j < i → f j = v) : ∀ j, j < i + 1 → nu f i v j = v := by
  intro j hj
  by_cases h8 : j = i
  · rw [h8, nu_s]
  · rw [nu_n h8]; exact h j (by omega)
theorem adec_in' {T S w lo rg r T1 S1 w1 lo1 rg1 : Nat} {b : Bool} (he : (T1, S1, w1, lo1, rg1) = adec (T, S, w, lo, rg) r b) (h1 : lo + rg ≤ 1024) (h2 : rg < 512) (h3 : lo < 1024) (h4 : w ≤ S) (hr : 6 ≤ r) (hr2 : r + 4 ≤ rg) : lo1 + rg1 ≤ 1024 ∧ rg1 < 512 ∧ lo1 < 1024 ∧ w1 ≤ S1 ∧ 256 ≤ rg1 ∧ S ≤ S1 ∧ S1 ≤ S + 6 := by
  have h := adec_in (x := (T, S, w, lo, rg)) (r := r) (b := b) ⟨h1, h2, h3, h4⟩ hr hr2
  rw [← he] at h
  exact ⟨h.1.1, h.1.2.1, h.1.2.2.1, h.1.2.2.2, h.2.1, h.2.2.1, h.2.2.2⟩
theorem amark_in' {T S w lo rg T1 S1 w1 lo1 rg1 : Nat} (he : (T1, S1, w1, lo1, rg1) = amark (T, S, w, lo, rg)) (h1 : lo + rg ≤ 1024) (h2 : rg < 512) (h3 : lo < 1024) (h4 : w ≤ S) (hr2 : 256 ≤ rg) : lo1 + rg1 ≤ 1024 ∧ rg1 < 512 ∧ lo1 < 1024 ∧ w1 ≤ S1 ∧ 256 ≤ rg1 ∧ S ≤ S1 ∧ S1 ≤ S + 6 := by
  have h := amark_in (x := (T, S, w, lo, rg)) ⟨h1, h2, h3, h4⟩ hr2
  rw [← he] at h
  exact ⟨h.1.1, h.1.2.1, h.1.2.2.1, h.1.2.2.2, h.2.1, h.2.2.1, h.2.2.2⟩
theorem aend_in' {T S w lo rg T1 S1 w1 lo1 rg1 : Nat} (he : (T1, S1, w1, lo1, rg1) = aend (T, S, w, lo, rg)) (h1 : lo + rg ≤ 1024) (h2 : rg < 512) (h3 : lo < 1024) (h4 : w ≤ S) (hr2 : 256 ≤ rg) : lo1 + rg1 ≤ 1024 ∧ rg1 < 512 ∧ lo1 < 1024 ∧ w1 ≤ S1 ∧ 256 ≤ rg1 ∧ S ≤ S1 ∧ S1 ≤ S + 7 := by
  have h := aend_in (x := (T, S, w, lo, rg)) ⟨h1, h2, h3, h4⟩ hr2
  rw [← he] at h
  exact ⟨h.1.1, h.1.2.1, h.1.2.2.1, h.1.2.2.2, h.2.1, h.2.2.1, h.2.2.2⟩
theorem abyp_eq {T S w lo rg b lo1 w1 : Nat} (h : (lo1, w1) = stl (2 * lo + b * rg) w) : (2 * T + b * rg, S + 1, w1, lo1, rg) = abyp (T, S, w, lo, rg) b := by
  simp only [abyp]
  rw [← h]
theorem br_le {b rg : Nat} (hb : b < 2) : b * rg ≤ rg := by rcases (show b = 0 ∨ b = 1 by omega) with rfl | rfl <;> omega
theorem abyp_in' {w lo rg b lo1 w1 : Nat} (h : (lo1, w1) = stl (2 * lo + b * rg) w) (hb : b < 2) (h1 : lo + rg ≤ 1024) (h2 : rg < 512) (h3 : lo < 1024) : lo1 + rg ≤ 1024 ∧ lo1 < 1024 ∧ w1 ≤ w + 1 := by
  have hm := br_le (rg := rg) hb
  have q := stl_in (lo2 := 2 * lo + b * rg) (w := w) (r := rg) (by omega) (by omega) (by omega)
  rw [← h] at q
  exact q
theorem pw16 {k : Nat} (h : k ≤ 16) : 2 ^ k ≤ 65536 := Nat.pow_le_pow_right (by decide) h
theorem log2_is {v k : Nat} (h1 : 2 ^ k ≤ v) (h2 : v < 2 ^ (k + 1)) : k = Nat.log2 v := by
  have h0 : v ≠ 0 := by have := Nat.two_pow_pos k; omega
  have a := (Nat.le_log2 h0).mpr h1
  have b := (Nat.log2_lt h0).mpr h2
  omega
theorem low_bits {v k i : Nat} (h : i < k) : v / 2 ^ i % 2 = (v + 2 ^ k) / 2 ^ i % 2 := by
  rw [show 2 ^ k = 2 ^ i * (2 ^ (k - i - 1) * 2) from by rw [← Nat.pow_succ, ← Nat.pow_add]; congr 1; omega, Nat.add_mul_div_left _ _ (Nat.two_pow_pos i)]
  omega
/-- the last two written bits and the settled ones make the number that the bytes hold -/
theorem fin_num {T G n S w lo : Nat} (h : JJ T G n S w lo) : 2 * (2 * gv G w (lo / 512 % 2) + lo / 256 % 2) + 1 = 2 * (T / 256) + 1 := by
  obtain ⟨h1, h3, h4, h5⟩ := h
  have hp : 1 ≤ 2 ^ w := Nat.one_le_two_pow
  have e1 : 2 ^ (w + 10) = 1024 * 2 ^ w := by rw [Nat.pow_add, Nat.mul_comm]
  rw [e1, show G * (1024 * 2 ^ w) = 1024 * (G * 2 ^ w) from Nat.mul_left_comm _ _ _] at h1
  have e2 : gv G w (lo / 512 % 2) = 2 * (G * 2 ^ w) + (2 ^ w - 1) + lo / 512 := by
    rcases (show lo / 512 = 0 ∨ lo / 512 = 1 by omega) with q | q <;> rw [q]
    · simp only [gv, Nat.zero_mod, Nat.sub_zero, Nat.one_mul, Nat.add_zero]; rw [Nat.mul_assoc]
    · simp only [gv, show 1 % 2 = 1 from rfl, Nat.sub_self, Nat.zero_mul, Nat.add_zero, Nat.add_mul, Nat.one_mul]; rw [Nat.mul_assoc]; omega
  rw [e2]
  generalize 2 ^ w = X at *
  generalize G * X = Y at *
  omega
/-- the register with the contexts: a decision with a context -/
abbrev Y7 : Type := W5 × (Nat → Nat) × (Nat → Nat)
def adc (y : Y7) (ct b : Nat) : Y7 := (adec y.1 (Rt (4 * y.2.1 ct + y.1.2.2.2.2 / 64 % 4)) (decide (b = y.2.2 ct)), lS y.2.1 y.2.2 ct b, lL y.2.1 y.2.2 ct b)
/-- the first k bins of a count v with the contexts from ca on -/
def acnt (ca v : Nat) : Nat → Y7 → Y7
  | 0, y => y
  | k + 1, y => adc (acnt ca v k y) (ca + min k 3) (if k < v then 1 else 0)
theorem alow_p {v j : Nat} (x : W5) (h : 0 < j) : alow v j x = alow v (j - 1) (abyp x (v / 2 ^ (j - 1) % 2)) := by
  obtain ⟨k, rfl⟩ : ∃ k, j = k + 1 := ⟨j - 1, by omega⟩
  rfl
theorem iinc_m1 (x : Int32) : x + Int32.ofInt (-1) = x - nI 1 := by
  rw [Int32.sub_eq_add_neg, show Int32.ofInt (-1) = -nI 1 from by decide]
