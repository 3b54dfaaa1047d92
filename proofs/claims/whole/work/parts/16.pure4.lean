/-! Arguments of the calls, and what holds of a writer and a reader between two calls. -/
def numOK (zb : Nat) (v : Int32) : Bool := if zb = 0 then inR v 65536 else decide (-32767 ≤ v.toInt ∧ v.toInt ≤ 32768)
def mostOK (x : Int32) : Bool := decide (1 ≤ x.toInt ∧ x.toInt ≤ 15)
theorem i32_lt {x y : Int32} : x < y ↔ x.toInt < y.toInt := Int32.lt_iff_toInt_lt
theorem i32_le {x y : Int32} : x ≤ y ↔ x.toInt ≤ y.toInt := Int32.le_iff_toInt_le
theorem m32767 : ((-32767 : Int32)).toInt = -32767 := by decide
theorem num_s {zb : Nat} {v : Int32} (hz : 0 < zb) : numOK zb v = true ↔ ¬ v < (-32767) ∧ v ≤ nI 32768 := by
  unfold numOK
  rw [if_neg (by omega), decide_eq_true_iff, i32_lt, i32_le, m32767, nI_toInt (by decide)]
  omega
theorem num_u {zb : Nat} {v : Int32} (hz : zb = 0) : numOK zb v = true ↔ ¬ v < nI 0 ∧ v ≤ nI 65535 := by
  unfold numOK inR
  rw [if_pos hz, decide_eq_true_iff, i32_lt, i32_le, nI_toInt (by decide), nI_toInt (by decide)]
  omega
theorem most_iff {x : Int32} : mostOK x = true ↔ ¬ x < nI 1 ∧ x ≤ nI 15 := by
  unfold mostOK
  rw [decide_eq_true_iff, i32_lt, i32_le, nI_toInt (by decide), nI_toInt (by decide)]
  omega
theorem most_ex {x : Int32} (h : mostOK x = true) : ∃ j : Nat, 1 ≤ j ∧ j ≤ 15 ∧ x = nI j := by
  have h1 := of_decide_eq_true h
  obtain ⟨j, hj, e⟩ := inR_ex (x := x) (n := 16) (decide_eq_true (by omega)) (by decide)
  subst e
  rw [nI_toInt (by omega)] at h1
  exact ⟨j, by omega, by omega, rfl⟩
/-- a signed number without its sign -/
def sgnN (v : Int32) : Nat := if 0 < v.toInt then 2 * v.toInt.toNat - 1 else 2 * (-v.toInt).toNat
def unum (zb : Nat) (v : Int32) : Nat := if zb = 0 then v.toInt.toNat else sgnN v
theorem sgn_pos {v : Int32} (h1 : ¬ v ≤ 0) (h2 : v ≤ nI 32768) : nI 2 * v - nI 1 = nI (sgnN v) := by
  have h3 : ¬ v.toInt ≤ 0 := fun z => h1 (i32_le.mpr (by rw [Int32.toInt_zero]; exact z))
  have h4 := i32_le.mp h2
  rw [nI_toInt (by decide)] at h4
  obtain ⟨j, hj, e⟩ := inR_ex (x := v) (n := 32769) (decide_eq_true (by omega)) (by decide)
  subst e
  have h5 : (nI j).toInt = j := nI_toInt (by omega)
  have h6 : sgnN (nI j) = 2 * j - 1 := by unfold sgnN; rw [h5, if_pos (by omega)]; rfl
  rw [h6, pk_mul, pk_sub (by omega)]
theorem sgn_neg {v : Int32} (h1 : v ≤ 0) (h2 : ¬ v < (-32767)) : (-2) * v = nI (sgnN v) := by
  have h3 := i32_le.mp h1
  rw [Int32.toInt_zero] at h3
  have h4 : ¬ v.toInt < -32767 := fun z => h2 (i32_lt.mpr (by rw [m32767]; exact z))
  have h6 : sgnN v = 2 * (-v.toInt).toNat := by unfold sgnN; rw [if_neg (by omega)]
  apply Int32.toInt_inj.mp
  rw [h6, nI_toInt (by omega), Int32.toInt_mul, show ((-2 : Int32)).toInt = -2 from by decide, Int.bmod_eq_of_le (by omega) (by omega)]
  omega
theorem sgn_le {v : Int32} (h1 : ¬ v < (-32767)) (h2 : v ≤ nI 32768) : sgnN v ≤ 65535 := by
  have h4 : ¬ v.toInt < -32767 := fun z => h1 (i32_lt.mpr (by rw [m32767]; exact z))
  have h5 := i32_le.mp h2
  rw [nI_toInt (by decide)] at h5
  unfold sgnN
  split <;> omega
theorem unum_le {zb : Nat} {v : Int32} (h : numOK zb v = true) : unum zb v ≤ 65535 := by
  unfold unum
  split
  · rename_i hz
    have := (num_u hz).mp h
    have h5 := i32_le.mp this.2
    rw [nI_toInt (by decide)] at h5
    omega
  · rename_i hz
    have := (num_s (by omega)).mp h
    exact sgn_le this.1 this.2
theorem unum_u {zb : Nat} {v : Int32} (hz : zb = 0) (h : numOK zb v = true) : v = nI (unum zb v) := by
  have := (num_u hz).mp h
  have h5 := i32_le.mp this.2
  have h6 : ¬ v.toInt < 0 := fun z => this.1 (i32_lt.mpr (by rw [nI_toInt (by decide)]; exact z))
  rw [nI_toInt (by decide)] at h5
  unfold unum
  rw [if_pos hz]
  apply Int32.toInt_inj.mp
  rw [nI_toInt (by omega)]
  omega
/-- a number with its sign -/
def wsg (u : Nat) : Int32 := if u % 2 = 1 then nI ((u + 1) / 2) else -nI (u / 2)
/-- a writer at work -/
def WOK (T G n S0 w lo rg bn bt hg : Nat) (B : Nat → Nat) : Prop := bt = n - 1 ∧ hg = min n 1 ∧ B = pk G (n - 1) ∧ JJ T G n S0 w lo ∧ 256 ≤ rg ∧ rg < 512 ∧ lo + rg ≤ 1024 ∧ S0 ≤ 6 * bn ∧ bn ≤ 400
/-- a reader at work -/
def ROK (rw of pl has : Nat) (C bs : Nat → Nat) : Prop := BS C has bs ∧ (∀ j, j < has → C j < 256) ∧ has ≤ 302 ∧ 256 ≤ rw ∧ rw < 512 ∧ of < rw ∧ pl < 900000000
def CI (S L : Nat → Nat) : Prop := (∀ j, j < 32 → S j < 63) ∧ ∀ j, j < 32 → L j < 2
theorem gb_le {o u : Nat} (ho : o ≤ 4) (hu : u ≤ 65535) : gbins o u ≤ 33 ∧ Nat.log2 (u + 2 ^ o) ≤ 16 ∧ o ≤ Nat.log2 (u + 2 ^ o) := by
  have h1 : 2 ^ o ≤ 2 ^ 4 := Nat.pow_le_pow_right (by decide) ho
  have h2 := Nat.two_pow_pos o
  have h3 : Nat.log2 (u + 2 ^ o) < 17 := (Nat.log2_lt (by omega)).mpr (by omega)
  have h4 : o ≤ Nat.log2 (u + 2 ^ o) := (Nat.le_log2 (by omega)).mpr (by omega)
  unfold gbins
  exact ⟨by omega, by omega, h4⟩
