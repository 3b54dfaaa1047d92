/-! Which exception a call throws: 0 none, else its place among those that the call names. -/
def cdSet (x1 x2 x3 : Int32) : Nat := if inR x1 32 = false then 1 else if inR x2 63 = false ∨ inR x3 2 = false then 2 else 0
def cdPut (x1 x2 : Int32) (wg bn : Nat) : Nat := if inR x1 32 = false then 1 else if inR x2 2 = false then 2 else if ¬ (wg = 1 ∧ bn + 1 ≤ 400) then 3 else 0
def cdPass (x1 : Int32) (wg bn : Nat) : Nat := if inR x1 2 = false then 1 else if ¬ (wg = 1 ∧ bn + 1 ≤ 400) then 2 else 0
def cdGol (x1 : Int32) (zb : Nat) (x2 : Int32) (wg bn : Nat) : Nat := if inR x1 5 = false ∨ numOK zb x2 = false then 1 else if ¬ (wg = 1 ∧ bn + gbins x1.toInt.toNat (unum zb x2) ≤ 400) then 2 else 0
def cntOK (x2 x3 : Int32) : Bool := decide (0 ≤ x3.toInt ∧ x3.toInt ≤ x2.toInt)
def cbins (x2 x3 : Int32) : Nat := if x3.toInt < x2.toInt then x3.toInt.toNat + 1 else x3.toInt.toNat
def cdUna (x1 x2 x3 : Int32) (wg bn : Nat) : Nat := if inR x1 29 = false then 1 else if mostOK x2 = false ∨ cntOK x2 x3 = false then 2 else if ¬ (wg = 1 ∧ bn + cbins x2 x3 ≤ 400) then 3 else 0
def cdMark (wg bn : Nat) : Nat := if ¬ (wg = 1 ∧ bn + 1 ≤ 400) then 1 else 0
def cdFin (wg : Nat) : Nat := if ¬ wg = 1 then 1 else 0
def cdAt (x1 : Int32) (bc : Nat) : Nat := if inR x1 bc = false then 1 else 0
def cdAlt (x1 x2 : Int32) (bc : Nat) : Nat := if inR x1 bc = false then 1 else if inR x2 256 = false then 2 else 0
def cdLoad (bc : Nat) : Nat := if bc = 0 then 1 else 0
def cdGet (x1 : Int32) (rdg : Nat) : Nat := if inR x1 32 = false then 1 else if ¬ rdg = 1 then 2 else 0
def cdRd (rdg : Nat) : Nat := if ¬ rdg = 1 then 1 else 0
def cdGg (x1 : Int32) (rdg : Nat) : Nat := if inR x1 5 = false then 1 else if ¬ rdg = 1 then 2 else 0
def cdGu (x1 x2 : Int32) (rdg : Nat) : Nat := if inR x1 29 = false then 1 else if mostOK x2 = false then 2 else if ¬ rdg = 1 then 3 else 0
def cdAb (x2 : Int32) : Nat := if inR x2 32 = false then 1 else 0
def cdEng (x1 : Int32) : Nat := if inR x1 7 = false then 1 else 0
def engV (j rg lo wt sh bn rw of : Nat) : Nat := match j with
  | 0 => rg
  | 1 => lo
  | 2 => wt
  | 3 => sh
  | 4 => bn
  | 5 => rw
  | _ => of
theorem bbf {b : Bool} (h : ¬ b = true) : b = false := Bool.eq_false_iff.mpr h
theorem bbt {b : Bool} (h : b = true) : ¬ b = false := by rw [h]; decide
theorem cnt_ex {x2 x3 : Int32} {j2 : Nat} (h2 : j2 ≤ 15) (e2 : x2 = nI j2) (h : cntOK x2 x3 = true) : ∃ j : Nat, j ≤ j2 ∧ x3 = nI j := by
  have h1 := of_decide_eq_true h
  rw [e2, nI_toInt (by omega)] at h1
  obtain ⟨j, hj, e⟩ := inR_ex (x := x3) (n := j2 + 1) (decide_eq_true (by omega)) (by omega)
  exact ⟨j, by omega, e⟩
theorem cnt_of {x2 x3 : Int32} (h1 : ¬ x3 < 0) (h2 : x3 ≤ x2) : cntOK x2 x3 = true := decide_eq_true ⟨by
  have h3 : ¬ x3.toInt < 0 := fun z => h1 (i32_lt.mpr (by rw [Int32.toInt_zero]; exact z))
  omega, i32_le.mp h2⟩
theorem cnt_no1 {x2 x3 : Int32} (h : x3 < 0) : cntOK x2 x3 = false := decide_eq_false (fun z => by
  have h3 := i32_lt.mp h
  rw [Int32.toInt_zero] at h3
  omega)
theorem cnt_no2 {x2 x3 : Int32} (h : ¬ x3 ≤ x2) : cntOK x2 x3 = false := decide_eq_false (fun z => h (i32_le.mpr z.2))
theorem inR_f1 {x : Int32} {n : Nat} (h : x < 0) : inR x n = false := bbf (fun z => inR_pos z h)
theorem inR_f2 {x : Int32} {n : Nat} (h : ¬ x ≤ nI n) (hn : n + 1 < 2147483648) : inR x (n + 1) = false := bbf (fun z => h (inR_le z hn))
theorem toN {j : Nat} (h : j < 2147483648) : (nI j).toInt.toNat = j := by rw [nI_toInt h]; rfl
theorem cb_nI {j2 j3 : Nat} (h2 : j2 < 2147483648) (h3 : j3 < 2147483648) : cbins (nI j2) (nI j3) = if j3 < j2 then j3 + 1 else j3 := by
  unfold cbins
  rw [nI_toInt h2, nI_toInt h3]
  by_cases h : j3 < j2
  · rw [if_pos (by omega), if_pos h]; rfl
  · rw [if_neg (by omega), if_neg h]; rfl
theorem agol_in {T S w lo rg o u : Nat} (h1 : lo + rg ≤ 1024) (h2 : rg < 512) (h3 : lo < 1024) (h4 : w ≤ S) : AI (agol o u (T, S, w, lo, rg)) ∧ (agol o u (T, S, w, lo, rg)).2.1 = S + gbins o u := by
  unfold agol gbins
  obtain ⟨a, b, c⟩ := aones_in (Nat.log2 (u + 2 ^ o) - o) (T, S, w, lo, rg) ⟨h1, h2, h3, h4⟩
  obtain ⟨a1, b1, c1⟩ := abyp_in (b := 0) (by decide) a
  obtain ⟨a2, b2, c2⟩ := alow_in (u + 2 ^ o) (Nat.log2 (u + 2 ^ o)) _ a1
  refine ⟨a2, ?_⟩
  rw [c2, c1, c]
  show S + (Nat.log2 (u + 2 ^ o) - o) + 1 + Nat.log2 (u + 2 ^ o) = _
  omega
theorem acnt_in {ca v T S0 w lo rg : Nat} {S L : Nat → Nat} (k : Nat) (hca : ca < 29) (hC : CI S L) (h1 : lo + rg ≤ 1024) (h2 : rg < 512) (h3 : lo < 1024) (h4 : w ≤ S0) (h5 : 256 ≤ rg) :
    (acnt ca v k ((T, S0, w, lo, rg), S, L)).1.2.2.2.1 + (acnt ca v k ((T, S0, w, lo, rg), S, L)).1.2.2.2.2 ≤ 1024 ∧ (acnt ca v k ((T, S0, w, lo, rg), S, L)).1.2.2.2.2 < 512 ∧ 256 ≤ (acnt ca v k ((T, S0, w, lo, rg), S, L)).1.2.2.2.2 ∧ (acnt ca v k ((T, S0, w, lo, rg), S, L)).1.2.1 ≤ S0 + 6 * k ∧ CI (acnt ca v k ((T, S0, w, lo, rg), S, L)).2.1 (acnt ca v k ((T, S0, w, lo, rg), S, L)).2.2 := by
  have key : ∀ k, AI (acnt ca v k ((T, S0, w, lo, rg), S, L)).1 ∧ 256 ≤ (acnt ca v k ((T, S0, w, lo, rg), S, L)).1.2.2.2.2 ∧ (acnt ca v k ((T, S0, w, lo, rg), S, L)).1.2.1 ≤ S0 + 6 * k ∧ CI (acnt ca v k ((T, S0, w, lo, rg), S, L)).2.1 (acnt ca v k ((T, S0, w, lo, rg), S, L)).2.2 := by
    intro k
    induction k with
    | zero => exact ⟨⟨h1, h2, h3, h4⟩, h5, Nat.le_refl _, hC⟩
    | succ k ih =>
      simp only [acnt]
      generalize acnt ca v k ((T, S0, w, lo, rg), S, L) = y at ih ⊢
      obtain ⟨a, b, c, d⟩ := ih
      have hR := Rt_in (y.2.1 (ca + min k 3)) (d.1 _ (by omega)) (y.1.2.2.2.2 / 64 % 4) (by omega)
      have hrg := a.2.1
      obtain ⟨a1, b1, c1, d1⟩ := adec_in (x := y.1) (r := Rt (4 * y.2.1 (ca + min k 3) + y.1.2.2.2.2 / 64 % 4)) (b := decide ((if k < v then 1 else 0) = y.2.2 (ca + min k 3))) a (by omega) (by omega)
      exact ⟨a1, b1, by show (adec _ _ _).2.1 ≤ _; omega, lS_in d.1 (by omega), lL_in d.2 (by omega)⟩
  obtain ⟨a, b, c, d⟩ := key k
  exact ⟨a.1, a.2.1, b, c, d⟩
