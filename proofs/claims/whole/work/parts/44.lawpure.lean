/-! What the law's walk needs of the numbers. -/
theorem cdSet_le (x1 x2 x3 : Int32) : cdSet x1 x2 x3 ≤ 3 := by unfold cdSet; (repeat' split) <;> decide
theorem cdPut_le (x1 x2 : Int32) (wg bn : Nat) : cdPut x1 x2 wg bn ≤ 3 := by unfold cdPut; (repeat' split) <;> decide
theorem cdPass_le (x1 : Int32) (wg bn : Nat) : cdPass x1 wg bn ≤ 3 := by unfold cdPass; (repeat' split) <;> decide
theorem cdGol_le (x1 : Int32) (zb : Nat) (x2 : Int32) (wg bn : Nat) : cdGol x1 zb x2 wg bn ≤ 3 := by unfold cdGol; (repeat' split) <;> decide
theorem cdUna_le (x1 x2 x3 : Int32) (wg bn : Nat) : cdUna x1 x2 x3 wg bn ≤ 3 := by unfold cdUna; (repeat' split) <;> decide
theorem cdMark_le (wg bn : Nat) : cdMark wg bn ≤ 3 := by unfold cdMark; (repeat' split) <;> decide
theorem cdFin_le (wg : Nat) : cdFin wg ≤ 3 := by unfold cdFin; (repeat' split) <;> decide
theorem cdAt_le (x1 : Int32) (bc : Nat) : cdAt x1 bc ≤ 3 := by unfold cdAt; (repeat' split) <;> decide
theorem cdAlt_le (x1 x2 : Int32) (bc : Nat) : cdAlt x1 x2 bc ≤ 3 := by unfold cdAlt; (repeat' split) <;> decide
theorem cdLoad_le (bc : Nat) : cdLoad bc ≤ 3 := by unfold cdLoad; (repeat' split) <;> decide
theorem cdGet_le (x1 : Int32) (rdg : Nat) : cdGet x1 rdg ≤ 3 := by unfold cdGet; (repeat' split) <;> decide
theorem cdRd_le (rdg : Nat) : cdRd rdg ≤ 3 := by unfold cdRd; (repeat' split) <;> decide
theorem cdGg_le (x1 : Int32) (rdg : Nat) : cdGg x1 rdg ≤ 3 := by unfold cdGg; (repeat' split) <;> decide
theorem cdGu_le (x1 x2 : Int32) (rdg : Nat) : cdGu x1 x2 rdg ≤ 3 := by unfold cdGu; (repeat' split) <;> decide
theorem cdAb_le (x2 : Int32) : cdAb x2 ≤ 3 := by unfold cdAb; (repeat' split) <;> decide
theorem cdEng_le (x1 : Int32) : cdEng x1 ≤ 3 := by unfold cdEng; (repeat' split) <;> decide
theorem cdPut_0 {x1 x2 : Int32} {wg bn : Nat} (h : cdPut x1 x2 wg bn = 0) : wg = 1 ∧ bn + 1 ≤ 400 := by
  unfold cdPut at h
  split at h
  · omega
  · split at h
    · omega
    · split at h <;> omega
theorem cdPass_0 {x1 : Int32} {wg bn : Nat} (h : cdPass x1 wg bn = 0) : wg = 1 ∧ bn + 1 ≤ 400 := by
  unfold cdPass at h
  split at h
  · omega
  · split at h <;> omega
theorem cdGol_0 {x1 x2 : Int32} {zb wg bn : Nat} (h : cdGol x1 zb x2 wg bn = 0) : wg = 1 ∧ bn + gbins x1.toInt.toNat (unum zb x2) ≤ 400 := by
  unfold cdGol at h
  split at h
  · omega
  · split at h
    · omega
    · rename_i h1; exact Decidable.not_not.mp h1
theorem cdUna_0 {x1 x2 x3 : Int32} {wg bn : Nat} (h : cdUna x1 x2 x3 wg bn = 0) : wg = 1 ∧ bn + cbins x2 x3 ≤ 400 := by
  unfold cdUna at h
  split at h
  · omega
  · split at h
    · omega
    · split at h
      · omega
      · rename_i h1; exact Decidable.not_not.mp h1
theorem cdMark_0 {wg bn : Nat} (h : cdMark wg bn = 0) : wg = 1 ∧ bn + 1 ≤ 400 := by
  unfold cdMark at h
  split at h <;> omega
theorem cdFin_0 {wg : Nat} (h : cdFin wg = 0) : wg = 1 := by
  unfold cdFin at h
  split at h <;> omega
theorem cdLoad_0 {bc : Nat} (h : cdLoad bc = 0) : 0 < bc := by
  unfold cdLoad at h
  split at h <;> omega
theorem cdGet_0 {x1 : Int32} {rdg : Nat} (h : cdGet x1 rdg = 0) : rdg = 1 := by
  unfold cdGet at h
  split at h
  · omega
  · split at h <;> omega
theorem cdRd_0 {rdg : Nat} (h : cdRd rdg = 0) : rdg = 1 := by
  unfold cdRd at h
  split at h <;> omega
theorem cdGg_0 {x1 : Int32} {rdg : Nat} (h : cdGg x1 rdg = 0) : rdg = 1 := by
  unfold cdGg at h
  split at h
  · omega
  · split at h <;> omega
theorem cdGu_0 {x1 x2 : Int32} {rdg : Nat} (h : cdGu x1 x2 rdg = 0) : rdg = 1 := by
  unfold cdGu at h
  split at h
  · omega
  · split at h
    · omega
    · split at h <;> omega
theorem lw_cmp0 {x y : Int64} (h : x = y) : lg_cmp x y = 0 := by
  subst h
  simp [lg_cmp]
def bsO (B : Nat → Nat) (n : Nat) : Nat → Nat := fun p => if p < 8 * n then B (p / 8) / 2 ^ (7 - p % 8) % 2 else 0
theorem bsO_BS {B : Nat → Nat} {n : Nat} : BS B n (bsO B n) := fun _ => rfl
theorem BS_eq {B C bs : Nat → Nat} {n : Nat} (h : ∀ j, j < n → C j = B j) (hb : BS B n bs) : BS C n bs := fun p => by
  rw [hb p]
  split
  · rw [h _ (by omega)]
  · rfl
theorem CI_set {S L : Nat → Nat} {c1 s1 b1 : Nat} (h : CI S L) (hs : s1 < 63) (hb : b1 < 2) : CI (nu S c1 s1) (nu L c1 b1) := by
  refine ⟨fun j hj => ?_, fun j hj => ?_⟩
  · by_cases q : j = c1
    · rw [q, nu_s]; exact hs
    · rw [nu_n q]; exact h.1 j hj
  · by_cases q : j = c1
    · rw [q, nu_s]; exact hb
    · rw [nu_n q]; exact h.2 j hj
theorem CI_dec {S L : Nat → Nat} {c1 b1 : Nat} (h : CI S L) (hc : c1 < 32) : CI (lS S L c1 b1) (lL S L c1 b1) := ⟨lS_in h.1 hc, lL_in h.2 hc⟩
theorem nu_eq {O B : Nat → Nat} {i v n : Nat} (h : ∀ j, j < n → O j = B j) : ∀ j, j < n → nu O i v j = nu B i v j := by
  intro j hj
  by_cases q : j = i
  · rw [q, nu_s, nu_s]
  · rw [nu_n q, nu_n q]; exact h j hj
theorem nu_lt {B : Nat → Nat} {i v n : Nat} (hv : v < 256) (h : ∀ j, j < n → B j < 256) : ∀ j, j < n → nu B i v j < 256 := by
  intro j hj
  by_cases q : j = i
  · rw [q, nu_s]; exact hv
  · rw [nu_n q]; exact h j hj
theorem pk_256 (g m i : Nat) : pk g m i < 256 := Nat.mod_lt _ (by decide)
theorem ROK_pl {rg of pl has : Nat} {C bs : Nat → Nat} (h : ROK rg of 0 has C bs) (hp : pl < 900000000) : ROK rg of pl has C bs := ⟨h.1, h.2.1, h.2.2.1, h.2.2.2.1, h.2.2.2.2.1, h.2.2.2.2.2.1, hp⟩
theorem rgol_f (bs : Nat → Nat) (o : Nat) (x : R3) : (rgol bs o x).2.1 ≤ 1 := by
  unfold rgol rgolE
  split
  · exact Nat.zero_le _
  · split
    · exact Nat.zero_le _
    · exact Nat.le_refl _
theorem mul_le1 {a b : Nat} (ha : a ≤ 1) (hb : b ≤ 1) : a * b ≤ 1 := Nat.le_trans (Nat.mul_le_mul ha hb) (Nat.le_refl _)
theorem W0_ok : WOK 0 0 0 0 0 0 510 0 0 0 (fun _ => 0) := ⟨rfl, rfl, (pk_0 0).symm, ⟨by decide, rfl, by decide, by decide⟩, by decide, by decide, by decide, by decide, by decide⟩
section LWS
variable {p : Program} {l : Launch} {e : Env} {R : Room} {s : State} {m : MethodId} {args : Array Value} {below : List Frame} {meth : Method} {c : Code} {H : Heap} {locs : List Loc} {cells slots : Nat} {Q : State → Prop} {cc : ByteArray} {pc : Nat} {ls : Array Slot} {rest : List Value}
theorem lw_sld (hexec : p.tables.exec = Jvm.exec) (hb : c.code = cc) {b L : Nat} {xs : Nat → Int32} {A : Nat → Prop} {H0 : Heap} (hX : va_X b L xs s H0) (hbl : b < H0.size) (hbA : ¬ A b) (hS : va_S A H0 H locs) {i : Nat} (hi : i < L) (hL : L ≤ 2048) (hdg : decode cc pc = .ok (.iaload, 1))
    (kk : W p l e R s m args below meth c H locs cells slots Q (F0 m (pc + 1) ls (.int (xs i) :: rest))) : W p l e R s m args below meth c H locs cells slots Q (F0 m pc ls (.int (nI i) :: .ref b :: rest)) :=
  va_sld hexec hb hX hbl hbA hS (vp_in_nI hi (by omega)) hdg (by rw [nI_clamp (by omega)]; exact kk)
end LWS
