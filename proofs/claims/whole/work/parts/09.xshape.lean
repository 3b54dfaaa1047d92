/-! What a throw needs around it; arguments that are small numbers or not. -/
def inR (x : Int32) (n : Nat) : Bool := decide (0 ≤ x.toInt ∧ x.toInt < (n : Int))
theorem inR_ex {x : Int32} {n : Nat} (h : inR x n = true) (hn : n < 2147483648) : ∃ j : Nat, j < n ∧ x = nI j := vp_in_of (vp_in_iff.mpr (of_decide_eq_true h)) hn
theorem inR_nI {j n : Nat} (h : j < n) (hn : n < 2147483648) : inR (nI j) n = true := decide_eq_true (by rw [nI_toInt (by omega)]; omega)
theorem inR_no {j n : Nat} (h : n ≤ j) (hj : j < 2147483648) : inR (nI j) n = false := decide_eq_false (by rw [nI_toInt hj]; omega)
theorem inR_pos {x : Int32} {n : Nat} (h : inR x n = true) : ¬ x < 0 := fun z => by
  have h1 := (of_decide_eq_true h).1
  have h2 := Int32.lt_iff_toInt_lt.mp z
  rw [Int32.toInt_zero] at h2
  omega
theorem inR_lt {x : Int32} {n : Nat} (h : inR x n = true) (hn : n < 2147483648) : x < nI n := Int32.lt_iff_toInt_lt.mpr (by rw [nI_toInt hn]; exact (of_decide_eq_true h).2)
theorem inR_of {x : Int32} {n : Nat} (h1 : ¬ x < 0) (h2 : x < nI n) (hn : n < 2147483648) : inR x n = true := decide_eq_true ⟨by
  have h3 : ¬ x.toInt < 0 := fun z => h1 (Int32.lt_iff_toInt_lt.mpr (by rw [Int32.toInt_zero]; exact z))
  omega, by
  have h3 := Int32.lt_iff_toInt_lt.mp h2
  rw [nI_toInt hn] at h3
  exact h3⟩
theorem inR_le {x : Int32} {n : Nat} (h : inR x (n + 1) = true) (hn : n + 1 < 2147483648) : x ≤ nI n := Int32.le_iff_toInt_le.mpr (by rw [nI_toInt (by omega)]; have := (of_decide_eq_true h).2; omega)
theorem inR_ofle {x : Int32} {n : Nat} (h1 : ¬ x < 0) (h2 : x ≤ nI n) (hn : n + 1 < 2147483648) : inR x (n + 1) = true := inR_of h1 (Int32.lt_iff_toInt_lt.mpr (by
  have h3 := Int32.le_iff_toInt_le.mp h2
  rw [nI_toInt (by omega)] at h3
  rw [nI_toInt hn]; omega)) hn
theorem inR_2 {x : Int32} : inR x 2 = true ↔ x = nI 0 ∨ x = nI 1 := by
  constructor
  · intro h
    obtain ⟨j, hj, e⟩ := inR_ex h (by decide)
    rcases (show j = 0 ∨ j = 1 by omega) with rfl | rfl
    · exact Or.inl e
    · exact Or.inr e
  · rintro (rfl | rfl)
    · exact inR_nI (by decide) (by decide)
    · exact inR_nI (by decide) (by decide)
def strL : List (Nat × String) := [(114, "no byte"), (118, "no bytes"), (169, "no such part"), (173, "no such context"), (176, "no such contexts for a count"), (178, "no bin"), (180, "no such order"), (184, "no such number"), (186, "no such most"), (192, "the writer has not started, or has ended"), (194, "no room for more bins"), (196, "no such byte"), (201, "nothing is loaded, or the reader reads no more"), (36, "no such state"), (89, "no such count")]
abbrev xIO : String := "java/lang/IndexOutOfBoundsException"
abbrev xIA : String := "java/lang/IllegalArgumentException"
abbrev xIS : String := "java/lang/IllegalStateException"
abbrev xUp : List String := ["java/lang/RuntimeException", "java/lang/Exception"]
def evW (U : State) : Prop :=
  va_Nw (.castable xIO xIO) U ∧ va_Nw (.castable xIA xIA) U ∧ va_Nw (.castable xIS xIS) U ∧
  va_Nw (.declares (Bundle.initS "java/lang/RuntimeException")) U ∧ va_Nw (.declares (Bundle.initS "java/lang/Exception")) U ∧ va_Nw (.declares (Bundle.initS "java/lang/Throwable")) U ∧
  va_Nc xIA xIO U ∧ va_Nc xIS xIO U ∧ va_Nc xIS xIA U
def evX (ep : EP) (A : Nat → Prop) (U : State) (H : Heap) : Prop := vx_Zq Bundle.tN "UNASSIGNED_STACK" Bundle.steD A U H ∧ vx_Zq Bundle.tN "SUPPRESSED_SENTINEL" Bundle.listD A U H ∧ (∀ q ∈ strL, vk_R RX3 q.1 q.2 (ep.2.2 q.1) U) ∧ evW U
theorem evW.warm {s U : State} (hW : s.WarmedH U.vm) (h : evW s) : evW U := by
  obtain ⟨h1, h2, h3, h4, h5, h6, h7, h8, h9⟩ := h
  exact ⟨va_Nw.warmC hW h1, va_Nw.warmC hW h2, va_Nw.warmC hW h3, va_Nw.warmD hW h4, va_Nw.warmD hW h5, va_Nw.warmD hW h6, h7.moved hW.alike, h8.moved hW.alike, h9.moved hW.alike⟩
theorem evW.same {s U : State} (hv : s.vm = U.vm) (h : evW s) : evW U := by
  obtain ⟨h1, h2, h3, h4, h5, h6, h7, h8, h9⟩ := h
  have ha : s.vm.Alike U.vm := by rw [← hv]; exact Vm.Alike.refl _
  exact ⟨va_Nw.same rfl hv h1, va_Nw.same rfl hv h2, va_Nw.same rfl hv h3, va_Nw.same rfl hv h4, va_Nw.same rfl hv h5, va_Nw.same rfl hv h6, h7.moved ha, h8.moved ha, h9.moved ha⟩
theorem evX_to {ep : EP} {A B : Nat → Prop} {s : State} {H : Heap} {locs : List Loc} (h : evX ep A s s.heap) (hS : va_S A s.heap H locs) (hF : ∀ q, B q → A q) : ∀ U : State, U.heap = H → s.WarmedH U.vm → evX ep B U U.heap := fun U hU hW =>
  ⟨((h.1.kept (H1 := U.heap) (fun a h1 h2 => by rw [hU]; exact hS.2.1 a h1 h2)).narrow hF).moved hW.alike, ((h.2.1.kept (H1 := U.heap) (fun a h1 h2 => by rw [hU]; exact hS.2.1 a h1 h2)).narrow hF).moved hW.alike, fun q hq => (h.2.2.1 q hq).warm hW, h.2.2.2.warm hW⟩
abbrev kPx (D : va_G) (ep : EP) (av : List Value) (tys : List (ClassId × FieldType)) (ws : va_W) (sz : Nat) : Array Value → State → Prop := va_Pc av (fun U => U.heap.size = sz ∧ va_P D vwCl ws U.heap ∧ va_K D vwCl tys U ∧ va_D (fun _ => True) ws ∧ evo (some ep) (va_A ws sz) U U.heap ∧ evX ep (va_A ws sz) U U.heap)
theorem kPx_blind {D : va_G} {ep : EP} {av : List Value} {tys : List (ClassId × FieldType)} {ws : va_W} {sz : Nat} : FrameBlind (kPx D ep av tys ws sz) := fun a U g mk q => by
  obtain ⟨q0, q1, qP, qK, qD, qE, qX1, qX2, qX3, qX4⟩ := q
  exact ⟨q0, q1, qP, va_K.moved (u := U) (U := U.calling g mk a) (Vm.Alike.refl U.vm) qK, qD, ⟨evT.moved (u := U) (U := U.calling g mk a) (Vm.Alike.refl U.vm) qE.1, evN.same (s := U) (U := U.calling g mk a) rfl qE.2⟩,
    vx_Zq.moved (u := U) (U := U.calling g mk a) (Vm.Alike.refl U.vm) qX1, vx_Zq.moved (u := U) (U := U.calling g mk a) (Vm.Alike.refl U.vm) qX2, fun q hq => vk_R.same (u := U) (U := U.calling g mk a) rfl (qX3 q hq), evW.same (s := U) (U := U.calling g mk a) rfl qX4⟩
theorem kPx_pre {D : va_G} {ep : EP} {av : List Value} {tys : List (ClassId × FieldType)} {wc : va_W} {s : State} {H : Heap} {A : Nat → Prop} (hPc : va_P D vwCl wc H) (hK : va_K D vwCl tys s) (hDc : va_D A wc) (hE : ∀ U : State, U.heap = H → s.WarmedH U.vm → evo (some ep) (va_A wc H.size) U U.heap) (hX : ∀ U : State, U.heap = H → s.WarmedH U.vm → evX ep (va_A wc H.size) U U.heap) : ∀ U : State, U.heap = H → s.WarmedH U.vm → kPx D ep av tys wc H.size av.toArray U := fun U hU hW => ⟨rfl, by rw [hU], by rw [hU]; exact hPc, va_K.moved hW.alike hK, hDc.weaken (fun _ _ _ _ => trivial), hE U hU hW, hX U hU hW⟩
/-- behind a throw nothing has changed -/
theorem kx_end {D : va_G} {tys : List (ClassId × FieldType)} {A : Nat → Prop} {w : va_W} {s : State} {H : Heap} {locs : List Loc} {C : String → Prop} {cls : String} (hP : va_P D vwCl w H) (hK : va_K D vwCl tys s) (hD : va_D A w) (hS : va_S A s.heap H locs) (hC : C cls) :
    ∀ t : State, s.vm.Alike t.vm → H.size ≤ t.heap.size → (∀ q : Nat, q < H.size → t.heap[q]? = H[q]?) → vx_X (fun (_ : Unit) => True) (fun (E : String) (_ : Unit) t => C E ∧ kB D tys A w t) A cls s t := fun t hvm hz hk =>
  ⟨(), trivial, ⟨hC, hP.kept (fun k q hq => hk q.1 (vx_lt hP hq)), va_K.moved hvm hK, hD⟩, Nat.le_trans hS.1 hz, fun q h1 h2 => (hk q (Nat.lt_of_lt_of_le h1 hS.1)).trans (hS.2.1 q h1 h2)⟩
theorem xb_IA : ∀ w ∈ (vx_atS RX3 38 xIA xUp).filter (fun w => !goodWord w), w ∈ ([.castable xIA xIA, .declares (Bundle.initS "java/lang/RuntimeException"), .declares (Bundle.initS "java/lang/Exception"), .declares (Bundle.initS "java/lang/Throwable")] : List Cond) := by decide +kernel
theorem xb_IO : ∀ w ∈ (vx_atS RX3 175 xIO xUp).filter (fun w => !goodWord w), w ∈ ([.castable xIO xIO, .declares (Bundle.initS "java/lang/RuntimeException"), .declares (Bundle.initS "java/lang/Exception"), .declares (Bundle.initS "java/lang/Throwable")] : List Cond) := by decide +kernel
theorem xb_IS : ∀ w ∈ (vx_atS RX3 120 xIS xUp).filter (fun w => !goodWord w), w ∈ ([.castable xIS xIS, .declares (Bundle.initS "java/lang/RuntimeException"), .declares (Bundle.initS "java/lang/Exception"), .declares (Bundle.initS "java/lang/Throwable")] : List Cond) := by decide +kernel
theorem xg_IA : ∀ w ∈ Cond.classLink RX3 34 xIA :: Cond.initialized xIA :: vx_atS RX3 38 xIA xUp, vx_ot w = true := by decide +kernel
theorem xg_IO : ∀ w ∈ Cond.classLink RX3 171 xIO :: Cond.initialized xIO :: vx_atS RX3 175 xIO xUp, vx_ot w = true := by decide +kernel
theorem xg_IS : ∀ w ∈ Cond.classLink RX3 116 xIS :: Cond.initialized xIS :: vx_atS RX3 120 xIS xUp, vx_ot w = true := by decide +kernel
theorem xh_IA {args : Array Value} {s : State} (h : evW s) (h1 : ∀ w ∈ (vx_atS RX3 38 xIA xUp).filter goodWord, w.before args s = true) : ∀ w ∈ vx_atS RX3 38 xIA xUp, w.before args s = true := vx_hat h1 xb_IA (vx_c (va_Nw.use rfl h.2.1) (vx_c (va_Nw.use rfl h.2.2.2.1) (vx_c (va_Nw.use rfl h.2.2.2.2.1) (vx_c (va_Nw.use rfl h.2.2.2.2.2.1) vx_n))))
theorem xh_IO {args : Array Value} {s : State} (h : evW s) (h1 : ∀ w ∈ (vx_atS RX3 175 xIO xUp).filter goodWord, w.before args s = true) : ∀ w ∈ vx_atS RX3 175 xIO xUp, w.before args s = true := vx_hat h1 xb_IO (vx_c (va_Nw.use rfl h.1) (vx_c (va_Nw.use rfl h.2.2.2.1) (vx_c (va_Nw.use rfl h.2.2.2.2.1) (vx_c (va_Nw.use rfl h.2.2.2.2.2.1) vx_n))))
theorem xh_IS {args : Array Value} {s : State} (h : evW s) (h1 : ∀ w ∈ (vx_atS RX3 120 xIS xUp).filter goodWord, w.before args s = true) : ∀ w ∈ vx_atS RX3 120 xIS xUp, w.before args s = true := vx_hat h1 xb_IS (vx_c (va_Nw.use rfl h.2.2.1) (vx_c (va_Nw.use rfl h.2.2.2.1) (vx_c (va_Nw.use rfl h.2.2.2.2.1) (vx_c (va_Nw.use rfl h.2.2.2.2.2.1) vx_n))))
