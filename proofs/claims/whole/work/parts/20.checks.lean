set_option maxHeartbeats 1000000 in
set_option maxRecDepth 100000 in
/-- the check passes -/
theorem k_X3_checkContext (l : Launch) (D : va_G) (cI : ClassId) (sz : Nat) (x1 : Int32) (hok : inR x1 32 = true) : Met l yX3_checkContext wsX3_checkContext ({ frames := 0, cells := 0, slots := 0, locals := 0 }) (kP D none [.int x1] [(cI, .int)] [] sz) (va_Qv (fun (u : Unit) => match u with | () => True) (fun u t => match u with | () => kB D [(cI, .int)] (va_A [] sz) [] t) (va_A [] sz)) 0 0 (va_A [] sz) := by
  refine Met.ofW (cc := cX3_checkContext) (maxL := 1) (ret := none) (by decide) rfl ?_
  intro p e s m args below meth c s₁ B hml hv
  obtain ⟨rfl, hsz, hP, hK, hD0, hev⟩ := hv
  have hx := B.exec
  have hb := B.bytes
  have hr := B.returns
  have hts := atoms_spec (ws := wsX3_checkContext) B.pre
  have hown : s.vm.findClass RX3 = some m.cls := findClass_of_methodNamed B.named
  have hlocks := B.notSynchronized
  subst hsz
  have hD := hD0.self (sz := s.heap.size)
  clear hD0
  generalize hAe : va_A [] s.heap.size = A at hD hev ⊢
  have hA : ∀ q : Nat, s.heap.size ≤ q → A q := fun q h => by rw [← hAe]; exact Or.inr h
  clear hAe
  have hS : va_S A s.heap s.heap [] := va_S.rf
  have hl := lv_entry ([.int x1]) (n := 1) (Nat.le_of_ble_eq_true rfl)
  rw [lg_entry_eq]
  generalize (lg_sl ([.int x1]) ++ List.replicate (1 - (lg_sl ([.int x1])).length) Slot.unset).toArray = ls at hl ⊢
  have hl : lv_has ls 1 [(0, .int x1)] := hl
  refine lv_iload_n hx hb dX3_checkContext_0 rfl (lv_at hl 0 rfl) ?_
  refine lv_if_lt (tgt := 10) hx hb dX3_checkContext_1 (by decide)  (fun c_1 => absurd c_1 (by exact inR_pos hok)) (fun c_1 => ?_)
  refine lv_iload_n hx hb dX3_checkContext_4 rfl (lv_at hl 0 rfl) ?_
  refine lv_bipush (v := nI 32) hx hb dX3_checkContext_5 (by decide) ?_
  refine lv_icmp_lt (tgt := 20) hx hb dX3_checkContext_7 (by decide)  (fun c_7 => ?_) (fun c_7 => absurd c_7 (by exact fun z => z (inR_lt hok (by decide))))
  exact W.vret hx hb hr (fun t ht hW => ⟨⟨(), rfl, trivial, by rw [ht]; exact hP, va_K.moved hW.alike hK, hD⟩, hS.F ht⟩) hS.2.2 dX3_checkContext_20

theorem xw_x_X3_checkContext_IO : ∀ w ∈ (vx_atS RX3 175 xIO xUp).filter goodWord, w ∈ wsX3_checkContext := by decide +kernel
set_option maxHeartbeats 1000000 in
set_option maxRecDepth 100000 in
/-- the check throws -/
theorem x_X3_checkContext (l : Launch) (hlt : l.stackTraces = false) (D : va_G) (cI : ClassId) (ep : EP) (sz : Nat) (x1 : Int32) (hno : ¬ inR x1 32 = true) : vx_Met l yX3_checkContext wsX3_checkContext ({ frames := 6, cells := 1, slots := 6, locals := 82 }) (kPx D ep [.int x1] [(cI, .int)] [] sz) (va_Qv (fun (u : Unit) => match u with | () => False) (fun u t => match u with | () => kB D [(cI, .int)] (va_A [] sz) [] t) (va_A [] sz)) (vx_X (fun (_ : Unit) => True) (fun (E : String) (_ : Unit) t => (E = xIO) ∧ kB D [(cI, .int)] (va_A [] sz) [] t) (va_A [] sz)) 1 6 (va_A [] sz) := by
  refine vx_ofW (cc := cX3_checkContext) (maxL := 1) (ret := none) (by decide) rfl ?_
  intro p e s m args below meth c s₁ B hml hnoh hv
  obtain ⟨rfl, hsz, hP, hK, hD0, hev, hevx⟩ := hv
  have hx := B.exec
  have hb := B.bytes
  have hr := B.returns
  have hts := atoms_spec (ws := wsX3_checkContext) B.pre
  have hown : s.vm.findClass RX3 = some m.cls := findClass_of_methodNamed B.named
  have hlocks := B.notSynchronized
  subst hsz
  have hD := hD0.self (sz := s.heap.size)
  clear hD0
  generalize hAe : va_A [] s.heap.size = A at hD hev hevx ⊢
  have hev1 : ev ep A s s.heap := hev
  obtain ⟨⟨hZR, hTR, hZT, hTT⟩, hNR, hNT, hNC1, hNC2⟩ := hev1
  have hA : ∀ q : Nat, s.heap.size ≤ q → A q := fun q h => by rw [← hAe]; exact Or.inr h
  clear hAe
  have hS : va_S A s.heap s.heap [] := va_S.rf
  have hl := lv_entry ([.int x1]) (n := 1) (Nat.le_of_ble_eq_true rfl)
  rw [lg_entry_eq]
  generalize (lg_sl ([.int x1]) ++ List.replicate (1 - (lg_sl ([.int x1])).length) Slot.unset).toArray = ls at hl ⊢
  have hl : lv_has ls 1 [(0, .int x1)] := hl
  refine lv_iload_n hx hb dX3_checkContext_0 rfl (lv_at hl 0 rfl) ?_
  refine lv_if_lt (tgt := 10) hx hb dX3_checkContext_1 (by decide)  (fun c_1 => ?_) (fun c_1 => ?_)
  · exact vx_throwS (own := RX3) (cls := xIO) (text := "no such context") (names := xUp) (ik := 171) (is := 173) (ic := 175) (sa := ep.2.2 173) hx hb hlt hown (by decide) (by decide) (hts (.classLink RX3 171 xIO) (by decide +kernel)) (hts (.initialized xIO) (by decide +kernel)) (hevx.2.2.1 (173, "no such context") (by decide)) (xh_IO hevx.2.2.2 (fun w h9 => hts w (xw_x_X3_checkContext_IO w h9))) xg_IO hevx.1 hevx.2.1 hS (by rw [hml]; exact hl.1) dX3_checkContext_10 dX3_checkContext_13 dX3_checkContext_14 dX3_checkContext_16 dX3_checkContext_19 (fun x h9 => (hnoh x h9).elim) (Nat.le_of_ble_eq_true rfl) (Nat.le_of_ble_eq_true rfl) (Nat.le_of_ble_eq_true rfl) (Nat.le_of_ble_eq_true rfl) hlocks (kx_end (C := fun E => E = xIO) hP hK hD hS (rfl)) hS.2.2 (Nat.le_of_ble_eq_true rfl) (Nat.le_of_ble_eq_true rfl)
  · refine lv_iload_n hx hb dX3_checkContext_4 rfl (lv_at hl 0 rfl) ?_
    refine lv_bipush (v := nI 32) hx hb dX3_checkContext_5 (by decide) ?_
    refine lv_icmp_lt (tgt := 20) hx hb dX3_checkContext_7 (by decide)  (fun c_7 => absurd c_7 (by exact fun z => hno (inR_of c_1 z (by decide)))) (fun c_7 => ?_)
    exact vx_throwS (own := RX3) (cls := xIO) (text := "no such context") (names := xUp) (ik := 171) (is := 173) (ic := 175) (sa := ep.2.2 173) hx hb hlt hown (by decide) (by decide) (hts (.classLink RX3 171 xIO) (by decide +kernel)) (hts (.initialized xIO) (by decide +kernel)) (hevx.2.2.1 (173, "no such context") (by decide)) (xh_IO hevx.2.2.2 (fun w h9 => hts w (xw_x_X3_checkContext_IO w h9))) xg_IO hevx.1 hevx.2.1 hS (by rw [hml]; exact hl.1) dX3_checkContext_10 dX3_checkContext_13 dX3_checkContext_14 dX3_checkContext_16 dX3_checkContext_19 (fun x h9 => (hnoh x h9).elim) (Nat.le_of_ble_eq_true rfl) (Nat.le_of_ble_eq_true rfl) (Nat.le_of_ble_eq_true rfl) (Nat.le_of_ble_eq_true rfl) hlocks (kx_end (C := fun E => E = xIO) hP hK hD hS (rfl)) hS.2.2 (Nat.le_of_ble_eq_true rfl) (Nat.le_of_ble_eq_true rfl)

set_option maxHeartbeats 1000000 in
set_option maxRecDepth 100000 in
/-- the check passes -/
theorem k_X3_checkFirstContext (l : Launch) (D : va_G) (cI : ClassId) (sz : Nat) (x1 : Int32) (hok : inR x1 29 = true) : Met l yX3_checkFirstContext wsX3_checkFirstContext ({ frames := 0, cells := 0, slots := 0, locals := 0 }) (kP D none [.int x1] [(cI, .int)] [] sz) (va_Qv (fun (u : Unit) => match u with | () => True) (fun u t => match u with | () => kB D [(cI, .int)] (va_A [] sz) [] t) (va_A [] sz)) 0 0 (va_A [] sz) := by
  refine Met.ofW (cc := cX3_checkFirstContext) (maxL := 1) (ret := none) (by decide) rfl ?_
  intro p e s m args below meth c s₁ B hml hv
  obtain ⟨rfl, hsz, hP, hK, hD0, hev⟩ := hv
  have hx := B.exec
  have hb := B.bytes
  have hr := B.returns
  have hts := atoms_spec (ws := wsX3_checkFirstContext) B.pre
  have hown : s.vm.findClass RX3 = some m.cls := findClass_of_methodNamed B.named
  have hlocks := B.notSynchronized
  subst hsz
  have hD := hD0.self (sz := s.heap.size)
  clear hD0
  generalize hAe : va_A [] s.heap.size = A at hD hev ⊢
  have hA : ∀ q : Nat, s.heap.size ≤ q → A q := fun q h => by rw [← hAe]; exact Or.inr h
  clear hAe
  have hS : va_S A s.heap s.heap [] := va_S.rf
  have hl := lv_entry ([.int x1]) (n := 1) (Nat.le_of_ble_eq_true rfl)
  rw [lg_entry_eq]
  generalize (lg_sl ([.int x1]) ++ List.replicate (1 - (lg_sl ([.int x1])).length) Slot.unset).toArray = ls at hl ⊢
  have hl : lv_has ls 1 [(0, .int x1)] := hl
  refine lv_iload_n hx hb dX3_checkFirstContext_0 rfl (lv_at hl 0 rfl) ?_
  refine lv_if_lt (tgt := 10) hx hb dX3_checkFirstContext_1 (by decide)  (fun c_1 => absurd c_1 (by exact inR_pos hok)) (fun c_1 => ?_)
  refine lv_iload_n hx hb dX3_checkFirstContext_4 rfl (lv_at hl 0 rfl) ?_
  refine lv_bipush (v := nI 29) hx hb dX3_checkFirstContext_5 (by decide) ?_
  refine lv_icmp_lt (tgt := 20) hx hb dX3_checkFirstContext_7 (by decide)  (fun c_7 => ?_) (fun c_7 => absurd c_7 (by exact fun z => z (inR_lt hok (by decide))))
  exact W.vret hx hb hr (fun t ht hW => ⟨⟨(), rfl, trivial, by rw [ht]; exact hP, va_K.moved hW.alike hK, hD⟩, hS.F ht⟩) hS.2.2 dX3_checkFirstContext_20

theorem xw_x_X3_checkFirstContext_IO : ∀ w ∈ (vx_atS RX3 175 xIO xUp).filter goodWord, w ∈ wsX3_checkFirstContext := by decide +kernel
set_option maxHeartbeats 1000000 in
set_option maxRecDepth 100000 in
/-- the check throws -/
theorem x_X3_checkFirstContext (l : Launch) (hlt : l.stackTraces = false) (D : va_G) (cI : ClassId) (ep : EP) (sz : Nat) (x1 : Int32) (hno : ¬ inR x1 29 = true) : vx_Met l yX3_checkFirstContext wsX3_checkFirstContext ({ frames := 6, cells := 1, slots := 6, locals := 82 }) (kPx D ep [.int x1] [(cI, .int)] [] sz) (va_Qv (fun (u : Unit) => match u with | () => False) (fun u t => match u with | () => kB D [(cI, .int)] (va_A [] sz) [] t) (va_A [] sz)) (vx_X (fun (_ : Unit) => True) (fun (E : String) (_ : Unit) t => (E = xIO) ∧ kB D [(cI, .int)] (va_A [] sz) [] t) (va_A [] sz)) 1 6 (va_A [] sz) := by
  refine vx_ofW (cc := cX3_checkFirstContext) (maxL := 1) (ret := none) (by decide) rfl ?_
  intro p e s m args below meth c s₁ B hml hnoh hv
  obtain ⟨rfl, hsz, hP, hK, hD0, hev, hevx⟩ := hv
  have hx := B.exec
  have hb := B.bytes
  have hr := B.returns
  have hts := atoms_spec (ws := wsX3_checkFirstContext) B.pre
  have hown : s.vm.findClass RX3 = some m.cls := findClass_of_methodNamed B.named
  have hlocks := B.notSynchronized
  subst hsz
  have hD := hD0.self (sz := s.heap.size)
  clear hD0
  generalize hAe : va_A [] s.heap.size = A at hD hev hevx ⊢
  have hev1 : ev ep A s s.heap := hev
  obtain ⟨⟨hZR, hTR, hZT, hTT⟩, hNR, hNT, hNC1, hNC2⟩ := hev1
  have hA : ∀ q : Nat, s.heap.size ≤ q → A q := fun q h => by rw [← hAe]; exact Or.inr h
  clear hAe
  have hS : va_S A s.heap s.heap [] := va_S.rf
  have hl := lv_entry ([.int x1]) (n := 1) (Nat.le_of_ble_eq_true rfl)
  rw [lg_entry_eq]
  generalize (lg_sl ([.int x1]) ++ List.replicate (1 - (lg_sl ([.int x1])).length) Slot.unset).toArray = ls at hl ⊢
  have hl : lv_has ls 1 [(0, .int x1)] := hl
  refine lv_iload_n hx hb dX3_checkFirstContext_0 rfl (lv_at hl 0 rfl) ?_
  refine lv_if_lt (tgt := 10) hx hb dX3_checkFirstContext_1 (by decide)  (fun c_1 => ?_) (fun c_1 => ?_)
  · exact vx_throwS (own := RX3) (cls := xIO) (text := "no such contexts for a count") (names := xUp) (ik := 171) (is := 176) (ic := 175) (sa := ep.2.2 176) hx hb hlt hown (by decide) (by decide) (hts (.classLink RX3 171 xIO) (by decide +kernel)) (hts (.initialized xIO) (by decide +kernel)) (hevx.2.2.1 (176, "no such contexts for a count") (by decide)) (xh_IO hevx.2.2.2 (fun w h9 => hts w (xw_x_X3_checkFirstContext_IO w h9))) xg_IO hevx.1 hevx.2.1 hS (by rw [hml]; exact hl.1) dX3_checkFirstContext_10 dX3_checkFirstContext_13 dX3_checkFirstContext_14 dX3_checkFirstContext_16 dX3_checkFirstContext_19 (fun x h9 => (hnoh x h9).elim) (Nat.le_of_ble_eq_true rfl) (Nat.le_of_ble_eq_true rfl) (Nat.le_of_ble_eq_true rfl) (Nat.le_of_ble_eq_true rfl) hlocks (kx_end (C := fun E => E = xIO) hP hK hD hS (rfl)) hS.2.2 (Nat.le_of_ble_eq_true rfl) (Nat.le_of_ble_eq_true rfl)
  · refine lv_iload_n hx hb dX3_checkFirstContext_4 rfl (lv_at hl 0 rfl) ?_
    refine lv_bipush (v := nI 29) hx hb dX3_checkFirstContext_5 (by decide) ?_
    refine lv_icmp_lt (tgt := 20) hx hb dX3_checkFirstContext_7 (by decide)  (fun c_7 => absurd c_7 (by exact fun z => hno (inR_of c_1 z (by decide)))) (fun c_7 => ?_)
    exact vx_throwS (own := RX3) (cls := xIO) (text := "no such contexts for a count") (names := xUp) (ik := 171) (is := 176) (ic := 175) (sa := ep.2.2 176) hx hb hlt hown (by decide) (by decide) (hts (.classLink RX3 171 xIO) (by decide +kernel)) (hts (.initialized xIO) (by decide +kernel)) (hevx.2.2.1 (176, "no such contexts for a count") (by decide)) (xh_IO hevx.2.2.2 (fun w h9 => hts w (xw_x_X3_checkFirstContext_IO w h9))) xg_IO hevx.1 hevx.2.1 hS (by rw [hml]; exact hl.1) dX3_checkFirstContext_10 dX3_checkFirstContext_13 dX3_checkFirstContext_14 dX3_checkFirstContext_16 dX3_checkFirstContext_19 (fun x h9 => (hnoh x h9).elim) (Nat.le_of_ble_eq_true rfl) (Nat.le_of_ble_eq_true rfl) (Nat.le_of_ble_eq_true rfl) (Nat.le_of_ble_eq_true rfl) hlocks (kx_end (C := fun E => E = xIO) hP hK hD hS (rfl)) hS.2.2 (Nat.le_of_ble_eq_true rfl) (Nat.le_of_ble_eq_true rfl)

set_option maxHeartbeats 1000000 in
set_option maxRecDepth 100000 in
/-- the check passes -/
theorem k_X3_checkBin (l : Launch) (D : va_G) (cI : ClassId) (sz : Nat) (x1 : Int32) (hok : inR x1 2 = true) : Met l yX3_checkBin wsX3_checkBin ({ frames := 0, cells := 0, slots := 0, locals := 0 }) (kP D none [.int x1] [(cI, .int)] [] sz) (va_Qv (fun (u : Unit) => match u with | () => True) (fun u t => match u with | () => kB D [(cI, .int)] (va_A [] sz) [] t) (va_A [] sz)) 0 0 (va_A [] sz) := by
  refine Met.ofW (cc := cX3_checkBin) (maxL := 1) (ret := none) (by decide) rfl ?_
  intro p e s m args below meth c s₁ B hml hv
  obtain ⟨rfl, hsz, hP, hK, hD0, hev⟩ := hv
  have hx := B.exec
  have hb := B.bytes
  have hr := B.returns
  have hts := atoms_spec (ws := wsX3_checkBin) B.pre
  have hown : s.vm.findClass RX3 = some m.cls := findClass_of_methodNamed B.named
  have hlocks := B.notSynchronized
  subst hsz
  have hD := hD0.self (sz := s.heap.size)
  clear hD0
  generalize hAe : va_A [] s.heap.size = A at hD hev ⊢
  have hA : ∀ q : Nat, s.heap.size ≤ q → A q := fun q h => by rw [← hAe]; exact Or.inr h
  clear hAe
  have hS : va_S A s.heap s.heap [] := va_S.rf
  have hl := lv_entry ([.int x1]) (n := 1) (Nat.le_of_ble_eq_true rfl)
  rw [lg_entry_eq]
  generalize (lg_sl ([.int x1]) ++ List.replicate (1 - (lg_sl ([.int x1])).length) Slot.unset).toArray = ls at hl ⊢
  have hl : lv_has ls 1 [(0, .int x1)] := hl
  refine lv_iload_n hx hb dX3_checkBin_0 rfl (lv_at hl 0 rfl) ?_
  refine lv_if_eq (tgt := 19) hx hb dX3_checkBin_1 (by decide)  (fun c_1 => ?_) (fun c_1 => ?_)
  · exact W.vret hx hb hr (fun t ht hW => ⟨⟨(), rfl, trivial, by rw [ht]; exact hP, va_K.moved hW.alike hK, hD⟩, hS.F ht⟩) hS.2.2 dX3_checkBin_19
  · refine lv_iload_n hx hb dX3_checkBin_4 rfl (lv_at hl 0 rfl) ?_
    refine lv_iconst (v := nI 1) hx hb dX3_checkBin_5 (by decide) ?_
    refine lv_icmp_eq (tgt := 19) hx hb dX3_checkBin_6 (by decide)  (fun c_6 => ?_) (fun c_6 => absurd c_6 (by exact fun z => (inR_2.mp hok).elim c_1 z))
    exact W.vret hx hb hr (fun t ht hW => ⟨⟨(), rfl, trivial, by rw [ht]; exact hP, va_K.moved hW.alike hK, hD⟩, hS.F ht⟩) hS.2.2 dX3_checkBin_19

theorem xw_x_X3_checkBin_IA : ∀ w ∈ (vx_atS RX3 38 xIA xUp).filter goodWord, w ∈ wsX3_checkBin := by decide +kernel
set_option maxHeartbeats 1000000 in
set_option maxRecDepth 100000 in
/-- the check throws -/
theorem x_X3_checkBin (l : Launch) (hlt : l.stackTraces = false) (D : va_G) (cI : ClassId) (ep : EP) (sz : Nat) (x1 : Int32) (hno : ¬ inR x1 2 = true) : vx_Met l yX3_checkBin wsX3_checkBin ({ frames := 6, cells := 1, slots := 6, locals := 82 }) (kPx D ep [.int x1] [(cI, .int)] [] sz) (va_Qv (fun (u : Unit) => match u with | () => False) (fun u t => match u with | () => kB D [(cI, .int)] (va_A [] sz) [] t) (va_A [] sz)) (vx_X (fun (_ : Unit) => True) (fun (E : String) (_ : Unit) t => (E = xIA) ∧ kB D [(cI, .int)] (va_A [] sz) [] t) (va_A [] sz)) 1 6 (va_A [] sz) := by
  refine vx_ofW (cc := cX3_checkBin) (maxL := 1) (ret := none) (by decide) rfl ?_
  intro p e s m args below meth c s₁ B hml hnoh hv
  obtain ⟨rfl, hsz, hP, hK, hD0, hev, hevx⟩ := hv
  have hx := B.exec
  have hb := B.bytes
  have hr := B.returns
  have hts := atoms_spec (ws := wsX3_checkBin) B.pre
  have hown : s.vm.findClass RX3 = some m.cls := findClass_of_methodNamed B.named
  have hlocks := B.notSynchronized
  subst hsz
  have hD := hD0.self (sz := s.heap.size)
  clear hD0
  generalize hAe : va_A [] s.heap.size = A at hD hev hevx ⊢
  have hev1 : ev ep A s s.heap := hev
  obtain ⟨⟨hZR, hTR, hZT, hTT⟩, hNR, hNT, hNC1, hNC2⟩ := hev1
  have hA : ∀ q : Nat, s.heap.size ≤ q → A q := fun q h => by rw [← hAe]; exact Or.inr h
  clear hAe
  have hS : va_S A s.heap s.heap [] := va_S.rf
  have hl := lv_entry ([.int x1]) (n := 1) (Nat.le_of_ble_eq_true rfl)
  rw [lg_entry_eq]
  generalize (lg_sl ([.int x1]) ++ List.replicate (1 - (lg_sl ([.int x1])).length) Slot.unset).toArray = ls at hl ⊢
  have hl : lv_has ls 1 [(0, .int x1)] := hl
  refine lv_iload_n hx hb dX3_checkBin_0 rfl (lv_at hl 0 rfl) ?_
  refine lv_if_eq (tgt := 19) hx hb dX3_checkBin_1 (by decide)  (fun c_1 => absurd c_1 (by exact fun z => hno (inR_2.mpr (Or.inl z)))) (fun c_1 => ?_)
  refine lv_iload_n hx hb dX3_checkBin_4 rfl (lv_at hl 0 rfl) ?_
  refine lv_iconst (v := nI 1) hx hb dX3_checkBin_5 (by decide) ?_
  refine lv_icmp_eq (tgt := 19) hx hb dX3_checkBin_6 (by decide)  (fun c_6 => absurd c_6 (by exact fun z => hno (inR_2.mpr (Or.inr z)))) (fun c_6 => ?_)
  exact vx_throwS (own := RX3) (cls := xIA) (text := "no bin") (names := xUp) (ik := 34) (is := 178) (ic := 38) (sa := ep.2.2 178) hx hb hlt hown (by decide) (by decide) (hts (.classLink RX3 34 xIA) (by decide +kernel)) (hts (.initialized xIA) (by decide +kernel)) (hevx.2.2.1 (178, "no bin") (by decide)) (xh_IA hevx.2.2.2 (fun w h9 => hts w (xw_x_X3_checkBin_IA w h9))) xg_IA hevx.1 hevx.2.1 hS (by rw [hml]; exact hl.1) dX3_checkBin_9 dX3_checkBin_12 dX3_checkBin_13 dX3_checkBin_15 dX3_checkBin_18 (fun x h9 => (hnoh x h9).elim) (Nat.le_of_ble_eq_true rfl) (Nat.le_of_ble_eq_true rfl) (Nat.le_of_ble_eq_true rfl) (Nat.le_of_ble_eq_true rfl) hlocks (kx_end (C := fun E => E = xIA) hP hK hD hS (rfl)) hS.2.2 (Nat.le_of_ble_eq_true rfl) (Nat.le_of_ble_eq_true rfl)

set_option maxHeartbeats 1000000 in
set_option maxRecDepth 100000 in
/-- the check passes -/
theorem k_X3_checkOrder (l : Launch) (D : va_G) (cI : ClassId) (sz : Nat) (x1 : Int32) (hok : inR x1 5 = true) : Met l yX3_checkOrder wsX3_checkOrder ({ frames := 0, cells := 0, slots := 0, locals := 0 }) (kP D none [.int x1] [(cI, .int)] [] sz) (va_Qv (fun (u : Unit) => match u with | () => True) (fun u t => match u with | () => kB D [(cI, .int)] (va_A [] sz) [] t) (va_A [] sz)) 0 0 (va_A [] sz) := by
  refine Met.ofW (cc := cX3_checkOrder) (maxL := 1) (ret := none) (by decide) rfl ?_
  intro p e s m args below meth c s₁ B hml hv
  obtain ⟨rfl, hsz, hP, hK, hD0, hev⟩ := hv
  have hx := B.exec
  have hb := B.bytes
  have hr := B.returns
  have hts := atoms_spec (ws := wsX3_checkOrder) B.pre
  have hown : s.vm.findClass RX3 = some m.cls := findClass_of_methodNamed B.named
  have hlocks := B.notSynchronized
  subst hsz
  have hD := hD0.self (sz := s.heap.size)
  clear hD0
  generalize hAe : va_A [] s.heap.size = A at hD hev ⊢
  have hA : ∀ q : Nat, s.heap.size ≤ q → A q := fun q h => by rw [← hAe]; exact Or.inr h
  clear hAe
  have hS : va_S A s.heap s.heap [] := va_S.rf
  have hl := lv_entry ([.int x1]) (n := 1) (Nat.le_of_ble_eq_true rfl)
  rw [lg_entry_eq]
  generalize (lg_sl ([.int x1]) ++ List.replicate (1 - (lg_sl ([.int x1])).length) Slot.unset).toArray = ls at hl ⊢
  have hl : lv_has ls 1 [(0, .int x1)] := hl
  refine lv_iload_n hx hb dX3_checkOrder_0 rfl (lv_at hl 0 rfl) ?_
  refine lv_if_lt (tgt := 9) hx hb dX3_checkOrder_1 (by decide)  (fun c_1 => absurd c_1 (by exact inR_pos hok)) (fun c_1 => ?_)
  refine lv_iload_n hx hb dX3_checkOrder_4 rfl (lv_at hl 0 rfl) ?_
  refine lv_iconst (v := nI 4) hx hb dX3_checkOrder_5 (by decide) ?_
  refine lv_icmp_le (tgt := 19) hx hb dX3_checkOrder_6 (by decide)  (fun c_6 => ?_) (fun c_6 => absurd c_6 (by exact fun z => z (inR_le hok (by decide))))
  exact W.vret hx hb hr (fun t ht hW => ⟨⟨(), rfl, trivial, by rw [ht]; exact hP, va_K.moved hW.alike hK, hD⟩, hS.F ht⟩) hS.2.2 dX3_checkOrder_19

theorem xw_x_X3_checkOrder_IA : ∀ w ∈ (vx_atS RX3 38 xIA xUp).filter goodWord, w ∈ wsX3_checkOrder := by decide +kernel
set_option maxHeartbeats 1000000 in
set_option maxRecDepth 100000 in
/-- the check throws -/
theorem x_X3_checkOrder (l : Launch) (hlt : l.stackTraces = false) (D : va_G) (cI : ClassId) (ep : EP) (sz : Nat) (x1 : Int32) (hno : ¬ inR x1 5 = true) : vx_Met l yX3_checkOrder wsX3_checkOrder ({ frames := 6, cells := 1, slots := 6, locals := 82 }) (kPx D ep [.int x1] [(cI, .int)] [] sz) (va_Qv (fun (u : Unit) => match u with | () => False) (fun u t => match u with | () => kB D [(cI, .int)] (va_A [] sz) [] t) (va_A [] sz)) (vx_X (fun (_ : Unit) => True) (fun (E : String) (_ : Unit) t => (E = xIA) ∧ kB D [(cI, .int)] (va_A [] sz) [] t) (va_A [] sz)) 1 6 (va_A [] sz) := by
  refine vx_ofW (cc := cX3_checkOrder) (maxL := 1) (ret := none) (by decide) rfl ?_
  intro p e s m args below meth c s₁ B hml hnoh hv
  obtain ⟨rfl, hsz, hP, hK, hD0, hev, hevx⟩ := hv
  have hx := B.exec
  have hb := B.bytes
  have hr := B.returns
  have hts := atoms_spec (ws := wsX3_checkOrder) B.pre
  have hown : s.vm.findClass RX3 = some m.cls := findClass_of_methodNamed B.named
  have hlocks := B.notSynchronized
  subst hsz
  have hD := hD0.self (sz := s.heap.size)
  clear hD0
  generalize hAe : va_A [] s.heap.size = A at hD hev hevx ⊢
  have hev1 : ev ep A s s.heap := hev
  obtain ⟨⟨hZR, hTR, hZT, hTT⟩, hNR, hNT, hNC1, hNC2⟩ := hev1
  have hA : ∀ q : Nat, s.heap.size ≤ q → A q := fun q h => by rw [← hAe]; exact Or.inr h
  clear hAe
  have hS : va_S A s.heap s.heap [] := va_S.rf
  have hl := lv_entry ([.int x1]) (n := 1) (Nat.le_of_ble_eq_true rfl)
  rw [lg_entry_eq]
  generalize (lg_sl ([.int x1]) ++ List.replicate (1 - (lg_sl ([.int x1])).length) Slot.unset).toArray = ls at hl ⊢
  have hl : lv_has ls 1 [(0, .int x1)] := hl
  refine lv_iload_n hx hb dX3_checkOrder_0 rfl (lv_at hl 0 rfl) ?_
  refine lv_if_lt (tgt := 9) hx hb dX3_checkOrder_1 (by decide)  (fun c_1 => ?_) (fun c_1 => ?_)
  · exact vx_throwS (own := RX3) (cls := xIA) (text := "no such order") (names := xUp) (ik := 34) (is := 180) (ic := 38) (sa := ep.2.2 180) hx hb hlt hown (by decide) (by decide) (hts (.classLink RX3 34 xIA) (by decide +kernel)) (hts (.initialized xIA) (by decide +kernel)) (hevx.2.2.1 (180, "no such order") (by decide)) (xh_IA hevx.2.2.2 (fun w h9 => hts w (xw_x_X3_checkOrder_IA w h9))) xg_IA hevx.1 hevx.2.1 hS (by rw [hml]; exact hl.1) dX3_checkOrder_9 dX3_checkOrder_12 dX3_checkOrder_13 dX3_checkOrder_15 dX3_checkOrder_18 (fun x h9 => (hnoh x h9).elim) (Nat.le_of_ble_eq_true rfl) (Nat.le_of_ble_eq_true rfl) (Nat.le_of_ble_eq_true rfl) (Nat.le_of_ble_eq_true rfl) hlocks (kx_end (C := fun E => E = xIA) hP hK hD hS (rfl)) hS.2.2 (Nat.le_of_ble_eq_true rfl) (Nat.le_of_ble_eq_true rfl)
  · refine lv_iload_n hx hb dX3_checkOrder_4 rfl (lv_at hl 0 rfl) ?_
    refine lv_iconst (v := nI 4) hx hb dX3_checkOrder_5 (by decide) ?_
    refine lv_icmp_le (tgt := 19) hx hb dX3_checkOrder_6 (by decide)  (fun c_6 => absurd c_6 (by exact fun z => hno (inR_ofle c_1 z (by decide)))) (fun c_6 => ?_)
    exact vx_throwS (own := RX3) (cls := xIA) (text := "no such order") (names := xUp) (ik := 34) (is := 180) (ic := 38) (sa := ep.2.2 180) hx hb hlt hown (by decide) (by decide) (hts (.classLink RX3 34 xIA) (by decide +kernel)) (hts (.initialized xIA) (by decide +kernel)) (hevx.2.2.1 (180, "no such order") (by decide)) (xh_IA hevx.2.2.2 (fun w h9 => hts w (xw_x_X3_checkOrder_IA w h9))) xg_IA hevx.1 hevx.2.1 hS (by rw [hml]; exact hl.1) dX3_checkOrder_9 dX3_checkOrder_12 dX3_checkOrder_13 dX3_checkOrder_15 dX3_checkOrder_18 (fun x h9 => (hnoh x h9).elim) (Nat.le_of_ble_eq_true rfl) (Nat.le_of_ble_eq_true rfl) (Nat.le_of_ble_eq_true rfl) (Nat.le_of_ble_eq_true rfl) hlocks (kx_end (C := fun E => E = xIA) hP hK hD hS (rfl)) hS.2.2 (Nat.le_of_ble_eq_true rfl) (Nat.le_of_ble_eq_true rfl)

set_option maxHeartbeats 1000000 in
set_option maxRecDepth 100000 in
/-- the check passes -/
theorem k_X3_checkMost (l : Launch) (D : va_G) (cI : ClassId) (sz : Nat) (x1 : Int32) (hok : mostOK x1 = true) : Met l yX3_checkMost wsX3_checkMost ({ frames := 0, cells := 0, slots := 0, locals := 0 }) (kP D none [.int x1] [(cI, .int)] [] sz) (va_Qv (fun (u : Unit) => match u with | () => True) (fun u t => match u with | () => kB D [(cI, .int)] (va_A [] sz) [] t) (va_A [] sz)) 0 0 (va_A [] sz) := by
  refine Met.ofW (cc := cX3_checkMost) (maxL := 1) (ret := none) (by decide) rfl ?_
  intro p e s m args below meth c s₁ B hml hv
  obtain ⟨rfl, hsz, hP, hK, hD0, hev⟩ := hv
  have hx := B.exec
  have hb := B.bytes
  have hr := B.returns
  have hts := atoms_spec (ws := wsX3_checkMost) B.pre
  have hown : s.vm.findClass RX3 = some m.cls := findClass_of_methodNamed B.named
  have hlocks := B.notSynchronized
  subst hsz
  have hD := hD0.self (sz := s.heap.size)
  clear hD0
  generalize hAe : va_A [] s.heap.size = A at hD hev ⊢
  have hA : ∀ q : Nat, s.heap.size ≤ q → A q := fun q h => by rw [← hAe]; exact Or.inr h
  clear hAe
  have hS : va_S A s.heap s.heap [] := va_S.rf
  have hl := lv_entry ([.int x1]) (n := 1) (Nat.le_of_ble_eq_true rfl)
  rw [lg_entry_eq]
  generalize (lg_sl ([.int x1]) ++ List.replicate (1 - (lg_sl ([.int x1])).length) Slot.unset).toArray = ls at hl ⊢
  have hl : lv_has ls 1 [(0, .int x1)] := hl
  refine lv_iload_n hx hb dX3_checkMost_0 rfl (lv_at hl 0 rfl) ?_
  refine lv_iconst (v := nI 1) hx hb dX3_checkMost_1 (by decide) ?_
  refine lv_icmp_lt (tgt := 11) hx hb dX3_checkMost_2 (by decide)  (fun c_2 => absurd c_2 (by exact (most_iff.mp hok).1)) (fun c_2 => ?_)
  refine lv_iload_n hx hb dX3_checkMost_5 rfl (lv_at hl 0 rfl) ?_
  refine lv_bipush (v := nI 15) hx hb dX3_checkMost_6 (by decide) ?_
  refine lv_icmp_le (tgt := 21) hx hb dX3_checkMost_8 (by decide)  (fun c_8 => ?_) (fun c_8 => absurd c_8 (by exact fun z => z (most_iff.mp hok).2))
  exact W.vret hx hb hr (fun t ht hW => ⟨⟨(), rfl, trivial, by rw [ht]; exact hP, va_K.moved hW.alike hK, hD⟩, hS.F ht⟩) hS.2.2 dX3_checkMost_21

theorem xw_x_X3_checkMost_IA : ∀ w ∈ (vx_atS RX3 38 xIA xUp).filter goodWord, w ∈ wsX3_checkMost := by decide +kernel
set_option maxHeartbeats 1000000 in
set_option maxRecDepth 100000 in
/-- the check throws -/
theorem x_X3_checkMost (l : Launch) (hlt : l.stackTraces = false) (D : va_G) (cI : ClassId) (ep : EP) (sz : Nat) (x1 : Int32) (hno : ¬ mostOK x1 = true) : vx_Met l yX3_checkMost wsX3_checkMost ({ frames := 6, cells := 1, slots := 6, locals := 82 }) (kPx D ep [.int x1] [(cI, .int)] [] sz) (va_Qv (fun (u : Unit) => match u with | () => False) (fun u t => match u with | () => kB D [(cI, .int)] (va_A [] sz) [] t) (va_A [] sz)) (vx_X (fun (_ : Unit) => True) (fun (E : String) (_ : Unit) t => (E = xIA) ∧ kB D [(cI, .int)] (va_A [] sz) [] t) (va_A [] sz)) 1 6 (va_A [] sz) := by
  refine vx_ofW (cc := cX3_checkMost) (maxL := 1) (ret := none) (by decide) rfl ?_
  intro p e s m args below meth c s₁ B hml hnoh hv
  obtain ⟨rfl, hsz, hP, hK, hD0, hev, hevx⟩ := hv
  have hx := B.exec
  have hb := B.bytes
  have hr := B.returns
  have hts := atoms_spec (ws := wsX3_checkMost) B.pre
  have hown : s.vm.findClass RX3 = some m.cls := findClass_of_methodNamed B.named
  have hlocks := B.notSynchronized
  subst hsz
  have hD := hD0.self (sz := s.heap.size)
  clear hD0
  generalize hAe : va_A [] s.heap.size = A at hD hev hevx ⊢
  have hev1 : ev ep A s s.heap := hev
  obtain ⟨⟨hZR, hTR, hZT, hTT⟩, hNR, hNT, hNC1, hNC2⟩ := hev1
  have hA : ∀ q : Nat, s.heap.size ≤ q → A q := fun q h => by rw [← hAe]; exact Or.inr h
  clear hAe
  have hS : va_S A s.heap s.heap [] := va_S.rf
  have hl := lv_entry ([.int x1]) (n := 1) (Nat.le_of_ble_eq_true rfl)
  rw [lg_entry_eq]
  generalize (lg_sl ([.int x1]) ++ List.replicate (1 - (lg_sl ([.int x1])).length) Slot.unset).toArray = ls at hl ⊢
  have hl : lv_has ls 1 [(0, .int x1)] := hl
  refine lv_iload_n hx hb dX3_checkMost_0 rfl (lv_at hl 0 rfl) ?_
  refine lv_iconst (v := nI 1) hx hb dX3_checkMost_1 (by decide) ?_
  refine lv_icmp_lt (tgt := 11) hx hb dX3_checkMost_2 (by decide)  (fun c_2 => ?_) (fun c_2 => ?_)
  · exact vx_throwS (own := RX3) (cls := xIA) (text := "no such most") (names := xUp) (ik := 34) (is := 186) (ic := 38) (sa := ep.2.2 186) hx hb hlt hown (by decide) (by decide) (hts (.classLink RX3 34 xIA) (by decide +kernel)) (hts (.initialized xIA) (by decide +kernel)) (hevx.2.2.1 (186, "no such most") (by decide)) (xh_IA hevx.2.2.2 (fun w h9 => hts w (xw_x_X3_checkMost_IA w h9))) xg_IA hevx.1 hevx.2.1 hS (by rw [hml]; exact hl.1) dX3_checkMost_11 dX3_checkMost_14 dX3_checkMost_15 dX3_checkMost_17 dX3_checkMost_20 (fun x h9 => (hnoh x h9).elim) (Nat.le_of_ble_eq_true rfl) (Nat.le_of_ble_eq_true rfl) (Nat.le_of_ble_eq_true rfl) (Nat.le_of_ble_eq_true rfl) hlocks (kx_end (C := fun E => E = xIA) hP hK hD hS (rfl)) hS.2.2 (Nat.le_of_ble_eq_true rfl) (Nat.le_of_ble_eq_true rfl)
  · refine lv_iload_n hx hb dX3_checkMost_5 rfl (lv_at hl 0 rfl) ?_
    refine lv_bipush (v := nI 15) hx hb dX3_checkMost_6 (by decide) ?_
    refine lv_icmp_le (tgt := 21) hx hb dX3_checkMost_8 (by decide)  (fun c_8 => absurd c_8 (by exact fun z => hno (most_iff.mpr ⟨c_2, z⟩))) (fun c_8 => ?_)
    exact vx_throwS (own := RX3) (cls := xIA) (text := "no such most") (names := xUp) (ik := 34) (is := 186) (ic := 38) (sa := ep.2.2 186) hx hb hlt hown (by decide) (by decide) (hts (.classLink RX3 34 xIA) (by decide +kernel)) (hts (.initialized xIA) (by decide +kernel)) (hevx.2.2.1 (186, "no such most") (by decide)) (xh_IA hevx.2.2.2 (fun w h9 => hts w (xw_x_X3_checkMost_IA w h9))) xg_IA hevx.1 hevx.2.1 hS (by rw [hml]; exact hl.1) dX3_checkMost_11 dX3_checkMost_14 dX3_checkMost_15 dX3_checkMost_17 dX3_checkMost_20 (fun x h9 => (hnoh x h9).elim) (Nat.le_of_ble_eq_true rfl) (Nat.le_of_ble_eq_true rfl) (Nat.le_of_ble_eq_true rfl) (Nat.le_of_ble_eq_true rfl) hlocks (kx_end (C := fun E => E = xIA) hP hK hD hS (rfl)) hS.2.2 (Nat.le_of_ble_eq_true rfl) (Nat.le_of_ble_eq_true rfl)

set_option maxHeartbeats 1000000 in
set_option maxRecDepth 100000 in
/-- the check passes -/
theorem k_X3_checkNumber (l : Launch) (D : va_G) (cI : ClassId) (sz : Nat) (zb : Nat) (x1 : Int32) (hz : zb < 2) (hok : numOK zb x1 = true) : Met l yX3_checkNumber wsX3_checkNumber ({ frames := 0, cells := 0, slots := 0, locals := 0 }) (kP D none [.int (nI zb), .int x1] [(cI, .int)] [] sz) (va_Qv (fun (u : Unit) => match u with | () => True) (fun u t => match u with | () => kB D [(cI, .int)] (va_A [] sz) [] t) (va_A [] sz)) 0 0 (va_A [] sz) := by
  refine Met.ofW (cc := cX3_checkNumber) (maxL := 4) (ret := none) (by decide) rfl ?_
  intro p e s m args below meth c s₁ B hml hv
  obtain ⟨rfl, hsz, hP, hK, hD0, hev⟩ := hv
  have hx := B.exec
  have hb := B.bytes
  have hr := B.returns
  have hts := atoms_spec (ws := wsX3_checkNumber) B.pre
  have hown : s.vm.findClass RX3 = some m.cls := findClass_of_methodNamed B.named
  have hlocks := B.notSynchronized
  subst hsz
  have hD := hD0.self (sz := s.heap.size)
  clear hD0
  generalize hAe : va_A [] s.heap.size = A at hD hev ⊢
  have hA : ∀ q : Nat, s.heap.size ≤ q → A q := fun q h => by rw [← hAe]; exact Or.inr h
  clear hAe
  have hS : va_S A s.heap s.heap [] := va_S.rf
  have hl := lv_entry ([.int (nI zb), .int x1]) (n := 4) (Nat.le_of_ble_eq_true rfl)
  rw [lg_entry_eq]
  generalize (lg_sl ([.int (nI zb), .int x1]) ++ List.replicate (4 - (lg_sl ([.int (nI zb), .int x1])).length) Slot.unset).toArray = ls at hl ⊢
  have hl : lv_has ls 4 [(0, .int (nI zb)), (1, .int x1)] := hl
  refine lv_iload_n hx hb dX3_checkNumber_0 rfl (lv_at hl 0 rfl) ?_
  refine wk_if_eq (tgt := 10) hx hb dX3_checkNumber_1 (by decide) (by omega) (fun c_1 => ?_) (fun c_1 => ?_)
  · refine lv_iconst (v := nI 0) hx hb dX3_checkNumber_10 (by decide) ?_
    refine lv_istore_n (lv' := [(2, .int (nI 0)), (0, .int (nI zb)), (1, .int x1)]) hx hb dX3_checkNumber_11 rfl hl (by decide) rfl (fun ls hl => ?_)
    refine lv_iload_n hx hb dX3_checkNumber_12 rfl (lv_at hl 1 rfl) ?_
    refine wk_if_eq (tgt := 21) hx hb dX3_checkNumber_13 (by decide) (by omega) (fun c_13 => ?_) (fun c_13 => absurd c_13 (by omega))
    refine lv_ldc (v := 65535) hx hb hown (hts (.constant RX3 183 (65535)) (by decide +kernel)) dX3_checkNumber_21 ?_
    refine wk_topI (b := 65535) (by decide) ?_
    refine lv_istore_n (lv' := [(3, .int (nI 65535)), (2, .int (nI 0)), (0, .int (nI zb)), (1, .int x1)]) hx hb dX3_checkNumber_23 rfl hl (by decide) rfl (fun ls hl => ?_)
    refine lv_iload_n hx hb dX3_checkNumber_24 rfl (lv_at hl 3 rfl) ?_
    refine lv_iload_n hx hb dX3_checkNumber_25 rfl (lv_at hl 1 rfl) ?_
    refine lv_icmp_lt (tgt := 34) hx hb dX3_checkNumber_26 (by decide)  (fun c_26 => absurd c_26 (by exact ((num_u c_1).mp hok).1)) (fun c_26 => ?_)
    refine lv_iload_n hx hb dX3_checkNumber_29 rfl (lv_at hl 3 rfl) ?_
    refine lv_iload_n hx hb dX3_checkNumber_30 rfl (lv_at hl 0 rfl) ?_
    refine lv_icmp_le (tgt := 44) hx hb dX3_checkNumber_31 (by decide)  (fun c_31 => ?_) (fun c_31 => absurd c_31 (by exact fun z => z ((num_u c_1).mp hok).2))
    exact W.vret hx hb hr (fun t ht hW => ⟨⟨(), rfl, trivial, by rw [ht]; exact hP, va_K.moved hW.alike hK, hD⟩, hS.F ht⟩) hS.2.2 dX3_checkNumber_44
  · refine lv_sipush (v := (-32767)) hx hb dX3_checkNumber_4 (by decide) ?_
    refine lv_goto (tgt := 11) hx hb dX3_checkNumber_7 (by decide) ?_
    refine lv_istore_n (lv' := [(2, .int ((-32767))), (0, .int (nI zb)), (1, .int x1)]) hx hb dX3_checkNumber_11 rfl hl (by decide) rfl (fun ls hl => ?_)
    refine lv_iload_n hx hb dX3_checkNumber_12 rfl (lv_at hl 1 rfl) ?_
    refine wk_if_eq (tgt := 21) hx hb dX3_checkNumber_13 (by decide) (by omega) (fun c_13 => absurd c_13 (by omega)) (fun c_13 => ?_)
    refine lv_ldc (v := 32768) hx hb hown (hts (.constant RX3 182 (32768)) (by decide +kernel)) dX3_checkNumber_16 ?_
    refine wk_topI (b := 32768) (by decide) ?_
    refine lv_goto (tgt := 23) hx hb dX3_checkNumber_18 (by decide) ?_
    refine lv_istore_n (lv' := [(3, .int (nI 32768)), (2, .int ((-32767))), (0, .int (nI zb)), (1, .int x1)]) hx hb dX3_checkNumber_23 rfl hl (by decide) rfl (fun ls hl => ?_)
    refine lv_iload_n hx hb dX3_checkNumber_24 rfl (lv_at hl 3 rfl) ?_
    refine lv_iload_n hx hb dX3_checkNumber_25 rfl (lv_at hl 1 rfl) ?_
    refine lv_icmp_lt (tgt := 34) hx hb dX3_checkNumber_26 (by decide)  (fun c_26 => absurd c_26 (by exact ((num_s c_1).mp hok).1)) (fun c_26 => ?_)
    refine lv_iload_n hx hb dX3_checkNumber_29 rfl (lv_at hl 3 rfl) ?_
    refine lv_iload_n hx hb dX3_checkNumber_30 rfl (lv_at hl 0 rfl) ?_
    refine lv_icmp_le (tgt := 44) hx hb dX3_checkNumber_31 (by decide)  (fun c_31 => ?_) (fun c_31 => absurd c_31 (by exact fun z => z ((num_s c_1).mp hok).2))
    exact W.vret hx hb hr (fun t ht hW => ⟨⟨(), rfl, trivial, by rw [ht]; exact hP, va_K.moved hW.alike hK, hD⟩, hS.F ht⟩) hS.2.2 dX3_checkNumber_44

theorem xw_x_X3_checkNumber_IA : ∀ w ∈ (vx_atS RX3 38 xIA xUp).filter goodWord, w ∈ wsX3_checkNumber := by decide +kernel
set_option maxHeartbeats 1000000 in
set_option maxRecDepth 100000 in
/-- the check throws -/
theorem x_X3_checkNumber (l : Launch) (hlt : l.stackTraces = false) (D : va_G) (cI : ClassId) (ep : EP) (sz : Nat) (zb : Nat) (x1 : Int32) (hz : zb < 2) (hno : ¬ numOK zb x1 = true) : vx_Met l yX3_checkNumber wsX3_checkNumber ({ frames := 6, cells := 1, slots := 6, locals := 82 }) (kPx D ep [.int (nI zb), .int x1] [(cI, .int)] [] sz) (va_Qv (fun (u : Unit) => match u with | () => False) (fun u t => match u with | () => kB D [(cI, .int)] (va_A [] sz) [] t) (va_A [] sz)) (vx_X (fun (_ : Unit) => True) (fun (E : String) (_ : Unit) t => (E = xIA) ∧ kB D [(cI, .int)] (va_A [] sz) [] t) (va_A [] sz)) 1 6 (va_A [] sz) := by
  refine vx_ofW (cc := cX3_checkNumber) (maxL := 4) (ret := none) (by decide) rfl ?_
  intro p e s m args below meth c s₁ B hml hnoh hv
  obtain ⟨rfl, hsz, hP, hK, hD0, hev, hevx⟩ := hv
  have hx := B.exec
  have hb := B.bytes
  have hr := B.returns
  have hts := atoms_spec (ws := wsX3_checkNumber) B.pre
  have hown : s.vm.findClass RX3 = some m.cls := findClass_of_methodNamed B.named
  have hlocks := B.notSynchronized
  subst hsz
  have hD := hD0.self (sz := s.heap.size)
  clear hD0
  generalize hAe : va_A [] s.heap.size = A at hD hev hevx ⊢
  have hev1 : ev ep A s s.heap := hev
  obtain ⟨⟨hZR, hTR, hZT, hTT⟩, hNR, hNT, hNC1, hNC2⟩ := hev1
  have hA : ∀ q : Nat, s.heap.size ≤ q → A q := fun q h => by rw [← hAe]; exact Or.inr h
  clear hAe
  have hS : va_S A s.heap s.heap [] := va_S.rf
  have hl := lv_entry ([.int (nI zb), .int x1]) (n := 4) (Nat.le_of_ble_eq_true rfl)
  rw [lg_entry_eq]
  generalize (lg_sl ([.int (nI zb), .int x1]) ++ List.replicate (4 - (lg_sl ([.int (nI zb), .int x1])).length) Slot.unset).toArray = ls at hl ⊢
  have hl : lv_has ls 4 [(0, .int (nI zb)), (1, .int x1)] := hl
  refine lv_iload_n hx hb dX3_checkNumber_0 rfl (lv_at hl 0 rfl) ?_
  refine wk_if_eq (tgt := 10) hx hb dX3_checkNumber_1 (by decide) (by omega) (fun c_1 => ?_) (fun c_1 => ?_)
  · refine lv_iconst (v := nI 0) hx hb dX3_checkNumber_10 (by decide) ?_
    refine lv_istore_n (lv' := [(2, .int (nI 0)), (0, .int (nI zb)), (1, .int x1)]) hx hb dX3_checkNumber_11 rfl hl (by decide) rfl (fun ls hl => ?_)
    refine lv_iload_n hx hb dX3_checkNumber_12 rfl (lv_at hl 1 rfl) ?_
    refine wk_if_eq (tgt := 21) hx hb dX3_checkNumber_13 (by decide) (by omega) (fun c_13 => ?_) (fun c_13 => absurd c_13 (by omega))
    refine lv_ldc (v := 65535) hx hb hown (hts (.constant RX3 183 (65535)) (by decide +kernel)) dX3_checkNumber_21 ?_
    refine wk_topI (b := 65535) (by decide) ?_
    refine lv_istore_n (lv' := [(3, .int (nI 65535)), (2, .int (nI 0)), (0, .int (nI zb)), (1, .int x1)]) hx hb dX3_checkNumber_23 rfl hl (by decide) rfl (fun ls hl => ?_)
    refine lv_iload_n hx hb dX3_checkNumber_24 rfl (lv_at hl 3 rfl) ?_
    refine lv_iload_n hx hb dX3_checkNumber_25 rfl (lv_at hl 1 rfl) ?_
    refine lv_icmp_lt (tgt := 34) hx hb dX3_checkNumber_26 (by decide)  (fun c_26 => ?_) (fun c_26 => ?_)
    · exact vx_throwS (own := RX3) (cls := xIA) (text := "no such number") (names := xUp) (ik := 34) (is := 184) (ic := 38) (sa := ep.2.2 184) hx hb hlt hown (by decide) (by decide) (hts (.classLink RX3 34 xIA) (by decide +kernel)) (hts (.initialized xIA) (by decide +kernel)) (hevx.2.2.1 (184, "no such number") (by decide)) (xh_IA hevx.2.2.2 (fun w h9 => hts w (xw_x_X3_checkNumber_IA w h9))) xg_IA hevx.1 hevx.2.1 hS (by rw [hml]; exact hl.1) dX3_checkNumber_34 dX3_checkNumber_37 dX3_checkNumber_38 dX3_checkNumber_40 dX3_checkNumber_43 (fun x h9 => (hnoh x h9).elim) (Nat.le_of_ble_eq_true rfl) (Nat.le_of_ble_eq_true rfl) (Nat.le_of_ble_eq_true rfl) (Nat.le_of_ble_eq_true rfl) hlocks (kx_end (C := fun E => E = xIA) hP hK hD hS (rfl)) hS.2.2 (Nat.le_of_ble_eq_true rfl) (Nat.le_of_ble_eq_true rfl)
    · refine lv_iload_n hx hb dX3_checkNumber_29 rfl (lv_at hl 3 rfl) ?_
      refine lv_iload_n hx hb dX3_checkNumber_30 rfl (lv_at hl 0 rfl) ?_
      refine lv_icmp_le (tgt := 44) hx hb dX3_checkNumber_31 (by decide)  (fun c_31 => absurd c_31 (by exact fun z => hno ((num_u c_1).mpr ⟨c_26, z⟩))) (fun c_31 => ?_)
      exact vx_throwS (own := RX3) (cls := xIA) (text := "no such number") (names := xUp) (ik := 34) (is := 184) (ic := 38) (sa := ep.2.2 184) hx hb hlt hown (by decide) (by decide) (hts (.classLink RX3 34 xIA) (by decide +kernel)) (hts (.initialized xIA) (by decide +kernel)) (hevx.2.2.1 (184, "no such number") (by decide)) (xh_IA hevx.2.2.2 (fun w h9 => hts w (xw_x_X3_checkNumber_IA w h9))) xg_IA hevx.1 hevx.2.1 hS (by rw [hml]; exact hl.1) dX3_checkNumber_34 dX3_checkNumber_37 dX3_checkNumber_38 dX3_checkNumber_40 dX3_checkNumber_43 (fun x h9 => (hnoh x h9).elim) (Nat.le_of_ble_eq_true rfl) (Nat.le_of_ble_eq_true rfl) (Nat.le_of_ble_eq_true rfl) (Nat.le_of_ble_eq_true rfl) hlocks (kx_end (C := fun E => E = xIA) hP hK hD hS (rfl)) hS.2.2 (Nat.le_of_ble_eq_true rfl) (Nat.le_of_ble_eq_true rfl)
  · refine lv_sipush (v := (-32767)) hx hb dX3_checkNumber_4 (by decide) ?_
    refine lv_goto (tgt := 11) hx hb dX3_checkNumber_7 (by decide) ?_
    refine lv_istore_n (lv' := [(2, .int ((-32767))), (0, .int (nI zb)), (1, .int x1)]) hx hb dX3_checkNumber_11 rfl hl (by decide) rfl (fun ls hl => ?_)
    refine lv_iload_n hx hb dX3_checkNumber_12 rfl (lv_at hl 1 rfl) ?_
    refine wk_if_eq (tgt := 21) hx hb dX3_checkNumber_13 (by decide) (by omega) (fun c_13 => absurd c_13 (by omega)) (fun c_13 => ?_)
    refine lv_ldc (v := 32768) hx hb hown (hts (.constant RX3 182 (32768)) (by decide +kernel)) dX3_checkNumber_16 ?_
    refine wk_topI (b := 32768) (by decide) ?_
    refine lv_goto (tgt := 23) hx hb dX3_checkNumber_18 (by decide) ?_
    refine lv_istore_n (lv' := [(3, .int (nI 32768)), (2, .int ((-32767))), (0, .int (nI zb)), (1, .int x1)]) hx hb dX3_checkNumber_23 rfl hl (by decide) rfl (fun ls hl => ?_)
    refine lv_iload_n hx hb dX3_checkNumber_24 rfl (lv_at hl 3 rfl) ?_
    refine lv_iload_n hx hb dX3_checkNumber_25 rfl (lv_at hl 1 rfl) ?_
    refine lv_icmp_lt (tgt := 34) hx hb dX3_checkNumber_26 (by decide)  (fun c_26 => ?_) (fun c_26 => ?_)
    · exact vx_throwS (own := RX3) (cls := xIA) (text := "no such number") (names := xUp) (ik := 34) (is := 184) (ic := 38) (sa := ep.2.2 184) hx hb hlt hown (by decide) (by decide) (hts (.classLink RX3 34 xIA) (by decide +kernel)) (hts (.initialized xIA) (by decide +kernel)) (hevx.2.2.1 (184, "no such number") (by decide)) (xh_IA hevx.2.2.2 (fun w h9 => hts w (xw_x_X3_checkNumber_IA w h9))) xg_IA hevx.1 hevx.2.1 hS (by rw [hml]; exact hl.1) dX3_checkNumber_34 dX3_checkNumber_37 dX3_checkNumber_38 dX3_checkNumber_40 dX3_checkNumber_43 (fun x h9 => (hnoh x h9).elim) (Nat.le_of_ble_eq_true rfl) (Nat.le_of_ble_eq_true rfl) (Nat.le_of_ble_eq_true rfl) (Nat.le_of_ble_eq_true rfl) hlocks (kx_end (C := fun E => E = xIA) hP hK hD hS (rfl)) hS.2.2 (Nat.le_of_ble_eq_true rfl) (Nat.le_of_ble_eq_true rfl)
    · refine lv_iload_n hx hb dX3_checkNumber_29 rfl (lv_at hl 3 rfl) ?_
      refine lv_iload_n hx hb dX3_checkNumber_30 rfl (lv_at hl 0 rfl) ?_
      refine lv_icmp_le (tgt := 44) hx hb dX3_checkNumber_31 (by decide)  (fun c_31 => absurd c_31 (by exact fun z => hno ((num_s c_1).mpr ⟨c_26, z⟩))) (fun c_31 => ?_)
      exact vx_throwS (own := RX3) (cls := xIA) (text := "no such number") (names := xUp) (ik := 34) (is := 184) (ic := 38) (sa := ep.2.2 184) hx hb hlt hown (by decide) (by decide) (hts (.classLink RX3 34 xIA) (by decide +kernel)) (hts (.initialized xIA) (by decide +kernel)) (hevx.2.2.1 (184, "no such number") (by decide)) (xh_IA hevx.2.2.2 (fun w h9 => hts w (xw_x_X3_checkNumber_IA w h9))) xg_IA hevx.1 hevx.2.1 hS (by rw [hml]; exact hl.1) dX3_checkNumber_34 dX3_checkNumber_37 dX3_checkNumber_38 dX3_checkNumber_40 dX3_checkNumber_43 (fun x h9 => (hnoh x h9).elim) (Nat.le_of_ble_eq_true rfl) (Nat.le_of_ble_eq_true rfl) (Nat.le_of_ble_eq_true rfl) (Nat.le_of_ble_eq_true rfl) hlocks (kx_end (C := fun E => E = xIA) hP hK hD hS (rfl)) hS.2.2 (Nat.le_of_ble_eq_true rfl) (Nat.le_of_ble_eq_true rfl)

theorem iw_k_X3_checkWriting_2 : ∀ w ∈ u_ws RX2 TX2 11, w ∈ wsX3_checkWriting := by decide +kernel
theorem iw_k_X3_checkWriting_3 : ∀ w ∈ u_ws RX3 TX3 3, w ∈ wsX3_checkWriting := by decide +kernel
set_option maxHeartbeats 1000000 in
set_option maxRecDepth 100000 in
/-- the check passes -/
theorem k_X3_checkWriting (l : Launch) (D : va_G) (cI : ClassId) (x st wr rd wc wb : Nat) (sz : Nat) (bc : Nat) (rg : Nat) (lo : Nat) (wt : Nat) (sh : Nat) (bn : Nat) (wg : Nat) (bt : Nat) (hg : Nat) (hok : wg = 1) : Met l yX3_checkWriting wsX3_checkWriting ({ frames := 0, cells := 0, slots := 0, locals := 0 }) (kP D none [.ref x] [(cI, .int)] [(x, .inr (3, [.ref st, .ref wr, .ref rd])), (wr, .inr (2, [.ref wc, .ref wb, .int (nI bc), .int (nI rg), .int (nI lo), .int (nI wt), .int (nI sh), .int (nI bn), .int (nI wg), .int (nI bt), .int (nI hg)]))] sz) (va_Qv (fun (u : Unit) => match u with | () => True) (fun u t => match u with | () => kB D [(cI, .int)] (va_A [(x, .inr (3, [.ref st, .ref wr, .ref rd])), (wr, .inr (2, [.ref wc, .ref wb, .int (nI bc), .int (nI rg), .int (nI lo), .int (nI wt), .int (nI sh), .int (nI bn), .int (nI wg), .int (nI bt), .int (nI hg)]))] sz) [(x, .inr (3, [.ref st, .ref wr, .ref rd])), (wr, .inr (2, [.ref wc, .ref wb, .int (nI bc), .int (nI rg), .int (nI lo), .int (nI wt), .int (nI sh), .int (nI bn), .int (nI wg), .int (nI bt), .int (nI hg)]))] t) (va_A [(x, .inr (3, [.ref st, .ref wr, .ref rd])), (wr, .inr (2, [.ref wc, .ref wb, .int (nI bc), .int (nI rg), .int (nI lo), .int (nI wt), .int (nI sh), .int (nI bn), .int (nI wg), .int (nI bt), .int (nI hg)]))] sz)) 0 0 (va_A [(x, .inr (3, [.ref st, .ref wr, .ref rd])), (wr, .inr (2, [.ref wc, .ref wb, .int (nI bc), .int (nI rg), .int (nI lo), .int (nI wt), .int (nI sh), .int (nI bn), .int (nI wg), .int (nI bt), .int (nI hg)]))] sz) := by
  refine Met.ofW (cc := cX3_checkWriting) (maxL := 1) (ret := none) (by decide) rfl ?_
  intro p e s m args below meth c s₁ B hml hv
  obtain ⟨rfl, hsz, hP, hK, hD0, hev⟩ := hv
  have hx := B.exec
  have hb := B.bytes
  have hr := B.returns
  have hts := atoms_spec (ws := wsX3_checkWriting) B.pre
  have hown : s.vm.findClass RX3 = some m.cls := findClass_of_methodNamed B.named
  have hlocks := B.notSynchronized
  subst hsz
  have hD := hD0.self (sz := s.heap.size)
  clear hD0
  generalize hAe : va_A [(x, .inr (3, [.ref st, .ref wr, .ref rd])), (wr, .inr (2, [.ref wc, .ref wb, .int (nI bc), .int (nI rg), .int (nI lo), .int (nI wt), .int (nI sh), .int (nI bn), .int (nI wg), .int (nI bt), .int (nI hg)]))] s.heap.size = A at hD hev ⊢
  have hA : ∀ q : Nat, s.heap.size ≤ q → A q := fun q h => by rw [← hAe]; exact Or.inr h
  clear hAe
  have hS : va_S A s.heap s.heap [] := va_S.rf
  have hl := lv_entry ([.ref x]) (n := 1) (Nat.le_of_ble_eq_true rfl)
  rw [lg_entry_eq]
  generalize (lg_sl ([.ref x]) ++ List.replicate (1 - (lg_sl ([.ref x])).length) Slot.unset).toArray = ls at hl ⊢
  have hl : lv_has ls 1 [(0, .ref x)] := hl
  refine lv_aload_n hx hb dX3_checkWriting_0 rfl (lv_at hl 0 rfl) ?_
  refine va_get (D := D) (ci := 3) (v := .ref wr) (C := RX3) (T := TX3) (N := 3) hx hb hts iw_k_X3_checkWriting_3 hown hK hP 0 rfl rfl 1 (by decide) (hts (.fieldLink RX3 19 "BinStreams" "writer" "LBinStreams$Writer;") (by decide +kernel)) (fun _ h9 => h9) rfl dX3_checkWriting_1 ?_
  refine va_get (D := D) (ci := 2) (v := .int (nI wg)) (C := RX2) (T := TX2) (N := 11) hx hb hts iw_k_X3_checkWriting_2 hown hK hP 1 rfl rfl 8 (by decide) (hts (.fieldLink RX3 188 "BinStreams$Writer" "writing" "Z") (by decide +kernel)) (fun _ h9 => h9) rfl dX3_checkWriting_4 ?_
  refine wk_if_ne (tgt := 20) hx hb dX3_checkWriting_7 (by decide) (by omega) (fun c_7 => ?_) (fun c_7 => absurd c_7 (by omega))
  exact W.vret hx hb hr (fun t ht hW => ⟨⟨(), rfl, trivial, by rw [ht]; exact hP, va_K.moved hW.alike hK, hD⟩, hS.F ht⟩) hS.2.2 dX3_checkWriting_20

theorem iw_x_X3_checkWriting_2 : ∀ w ∈ u_ws RX2 TX2 11, w ∈ wsX3_checkWriting := by decide +kernel
theorem iw_x_X3_checkWriting_3 : ∀ w ∈ u_ws RX3 TX3 3, w ∈ wsX3_checkWriting := by decide +kernel
theorem xw_x_X3_checkWriting_IS : ∀ w ∈ (vx_atS RX3 120 xIS xUp).filter goodWord, w ∈ wsX3_checkWriting := by decide +kernel
set_option maxHeartbeats 1000000 in
set_option maxRecDepth 100000 in
/-- the check throws -/
theorem x_X3_checkWriting (l : Launch) (hlt : l.stackTraces = false) (D : va_G) (cI : ClassId) (ep : EP) (x st wr rd wc wb : Nat) (sz : Nat) (bc : Nat) (rg : Nat) (lo : Nat) (wt : Nat) (sh : Nat) (bn : Nat) (wg : Nat) (bt : Nat) (hg : Nat) (hno : ¬ wg = 1) (hwg : wg ≤ 1) : vx_Met l yX3_checkWriting wsX3_checkWriting ({ frames := 6, cells := 1, slots := 6, locals := 82 }) (kPx D ep [.ref x] [(cI, .int)] [(x, .inr (3, [.ref st, .ref wr, .ref rd])), (wr, .inr (2, [.ref wc, .ref wb, .int (nI bc), .int (nI rg), .int (nI lo), .int (nI wt), .int (nI sh), .int (nI bn), .int (nI wg), .int (nI bt), .int (nI hg)]))] sz) (va_Qv (fun (u : Unit) => match u with | () => False) (fun u t => match u with | () => kB D [(cI, .int)] (va_A [(x, .inr (3, [.ref st, .ref wr, .ref rd])), (wr, .inr (2, [.ref wc, .ref wb, .int (nI bc), .int (nI rg), .int (nI lo), .int (nI wt), .int (nI sh), .int (nI bn), .int (nI wg), .int (nI bt), .int (nI hg)]))] sz) [(x, .inr (3, [.ref st, .ref wr, .ref rd])), (wr, .inr (2, [.ref wc, .ref wb, .int (nI bc), .int (nI rg), .int (nI lo), .int (nI wt), .int (nI sh), .int (nI bn), .int (nI wg), .int (nI bt), .int (nI hg)]))] t) (va_A [(x, .inr (3, [.ref st, .ref wr, .ref rd])), (wr, .inr (2, [.ref wc, .ref wb, .int (nI bc), .int (nI rg), .int (nI lo), .int (nI wt), .int (nI sh), .int (nI bn), .int (nI wg), .int (nI bt), .int (nI hg)]))] sz)) (vx_X (fun (_ : Unit) => True) (fun (E : String) (_ : Unit) t => (E = xIS) ∧ kB D [(cI, .int)] (va_A [(x, .inr (3, [.ref st, .ref wr, .ref rd])), (wr, .inr (2, [.ref wc, .ref wb, .int (nI bc), .int (nI rg), .int (nI lo), .int (nI wt), .int (nI sh), .int (nI bn), .int (nI wg), .int (nI bt), .int (nI hg)]))] sz) [(x, .inr (3, [.ref st, .ref wr, .ref rd])), (wr, .inr (2, [.ref wc, .ref wb, .int (nI bc), .int (nI rg), .int (nI lo), .int (nI wt), .int (nI sh), .int (nI bn), .int (nI wg), .int (nI bt), .int (nI hg)]))] t) (va_A [(x, .inr (3, [.ref st, .ref wr, .ref rd])), (wr, .inr (2, [.ref wc, .ref wb, .int (nI bc), .int (nI rg), .int (nI lo), .int (nI wt), .int (nI sh), .int (nI bn), .int (nI wg), .int (nI bt), .int (nI hg)]))] sz)) 1 6 (va_A [(x, .inr (3, [.ref st, .ref wr, .ref rd])), (wr, .inr (2, [.ref wc, .ref wb, .int (nI bc), .int (nI rg), .int (nI lo), .int (nI wt), .int (nI sh), .int (nI bn), .int (nI wg), .int (nI bt), .int (nI hg)]))] sz) := by
  refine vx_ofW (cc := cX3_checkWriting) (maxL := 1) (ret := none) (by decide) rfl ?_
  intro p e s m args below meth c s₁ B hml hnoh hv
  obtain ⟨rfl, hsz, hP, hK, hD0, hev, hevx⟩ := hv
  have hx := B.exec
  have hb := B.bytes
  have hr := B.returns
  have hts := atoms_spec (ws := wsX3_checkWriting) B.pre
  have hown : s.vm.findClass RX3 = some m.cls := findClass_of_methodNamed B.named
  have hlocks := B.notSynchronized
  subst hsz
  have hD := hD0.self (sz := s.heap.size)
  clear hD0
  generalize hAe : va_A [(x, .inr (3, [.ref st, .ref wr, .ref rd])), (wr, .inr (2, [.ref wc, .ref wb, .int (nI bc), .int (nI rg), .int (nI lo), .int (nI wt), .int (nI sh), .int (nI bn), .int (nI wg), .int (nI bt), .int (nI hg)]))] s.heap.size = A at hD hev hevx ⊢
  have hev1 : ev ep A s s.heap := hev
  obtain ⟨⟨hZR, hTR, hZT, hTT⟩, hNR, hNT, hNC1, hNC2⟩ := hev1
  have hA : ∀ q : Nat, s.heap.size ≤ q → A q := fun q h => by rw [← hAe]; exact Or.inr h
  clear hAe
  have hS : va_S A s.heap s.heap [] := va_S.rf
  have hl := lv_entry ([.ref x]) (n := 1) (Nat.le_of_ble_eq_true rfl)
  rw [lg_entry_eq]
  generalize (lg_sl ([.ref x]) ++ List.replicate (1 - (lg_sl ([.ref x])).length) Slot.unset).toArray = ls at hl ⊢
  have hl : lv_has ls 1 [(0, .ref x)] := hl
  refine lv_aload_n hx hb dX3_checkWriting_0 rfl (lv_at hl 0 rfl) ?_
  refine va_get (D := D) (ci := 3) (v := .ref wr) (C := RX3) (T := TX3) (N := 3) hx hb hts iw_x_X3_checkWriting_3 hown hK hP 0 rfl rfl 1 (by decide) (hts (.fieldLink RX3 19 "BinStreams" "writer" "LBinStreams$Writer;") (by decide +kernel)) (fun _ h9 => h9) rfl dX3_checkWriting_1 ?_
  refine va_get (D := D) (ci := 2) (v := .int (nI wg)) (C := RX2) (T := TX2) (N := 11) hx hb hts iw_x_X3_checkWriting_2 hown hK hP 1 rfl rfl 8 (by decide) (hts (.fieldLink RX3 188 "BinStreams$Writer" "writing" "Z") (by decide +kernel)) (fun _ h9 => h9) rfl dX3_checkWriting_4 ?_
  refine wk_if_ne (tgt := 20) hx hb dX3_checkWriting_7 (by decide) (by omega) (fun c_7 => absurd c_7 (by omega)) (fun c_7 => ?_)
  exact vx_throwS (own := RX3) (cls := xIS) (text := "the writer has not started, or has ended") (names := xUp) (ik := 116) (is := 192) (ic := 120) (sa := ep.2.2 192) hx hb hlt hown (by decide) (by decide) (hts (.classLink RX3 116 xIS) (by decide +kernel)) (hts (.initialized xIS) (by decide +kernel)) (hevx.2.2.1 (192, "the writer has not started, or has ended") (by decide)) (xh_IS hevx.2.2.2 (fun w h9 => hts w (xw_x_X3_checkWriting_IS w h9))) xg_IS hevx.1 hevx.2.1 hS (by rw [hml]; exact hl.1) dX3_checkWriting_10 dX3_checkWriting_13 dX3_checkWriting_14 dX3_checkWriting_16 dX3_checkWriting_19 (fun x h9 => (hnoh x h9).elim) (Nat.le_of_ble_eq_true rfl) (Nat.le_of_ble_eq_true rfl) (Nat.le_of_ble_eq_true rfl) (Nat.le_of_ble_eq_true rfl) hlocks (kx_end (C := fun E => E = xIS) hP hK hD hS (rfl)) hS.2.2 (Nat.le_of_ble_eq_true rfl) (Nat.le_of_ble_eq_true rfl)

theorem iw_k_X3_checkRoom_2 : ∀ w ∈ u_ws RX2 TX2 11, w ∈ wsX3_checkRoom := by decide +kernel
theorem iw_k_X3_checkRoom_3 : ∀ w ∈ u_ws RX3 TX3 3, w ∈ wsX3_checkRoom := by decide +kernel
set_option maxHeartbeats 1000000 in
set_option maxRecDepth 100000 in
/-- the check passes -/
theorem k_X3_checkRoom (l : Launch) (D : va_G) (cI : ClassId) (x st wr rd wc wb : Nat) (sz : Nat) (mo : Nat) (bc : Nat) (rg : Nat) (lo : Nat) (wt : Nat) (sh : Nat) (bn : Nat) (wg : Nat) (bt : Nat) (hg : Nat) (hok : wg = 1 ∧ bn + mo ≤ 400) : Met l yX3_checkRoom wsX3_checkRoom ({ frames := 1, cells := 0, slots := 0, locals := 20 }) (kP D none [.ref x, .int (nI mo)] [(cI, .int)] [(x, .inr (3, [.ref st, .ref wr, .ref rd])), (wr, .inr (2, [.ref wc, .ref wb, .int (nI bc), .int (nI rg), .int (nI lo), .int (nI wt), .int (nI sh), .int (nI bn), .int (nI wg), .int (nI bt), .int (nI hg)]))] sz) (va_Qv (fun (u : Unit) => match u with | () => True) (fun u t => match u with | () => kB D [(cI, .int)] (va_A [(x, .inr (3, [.ref st, .ref wr, .ref rd])), (wr, .inr (2, [.ref wc, .ref wb, .int (nI bc), .int (nI rg), .int (nI lo), .int (nI wt), .int (nI sh), .int (nI bn), .int (nI wg), .int (nI bt), .int (nI hg)]))] sz) [(x, .inr (3, [.ref st, .ref wr, .ref rd])), (wr, .inr (2, [.ref wc, .ref wb, .int (nI bc), .int (nI rg), .int (nI lo), .int (nI wt), .int (nI sh), .int (nI bn), .int (nI wg), .int (nI bt), .int (nI hg)]))] t) (va_A [(x, .inr (3, [.ref st, .ref wr, .ref rd])), (wr, .inr (2, [.ref wc, .ref wb, .int (nI bc), .int (nI rg), .int (nI lo), .int (nI wt), .int (nI sh), .int (nI bn), .int (nI wg), .int (nI bt), .int (nI hg)]))] sz)) 0 0 (va_A [(x, .inr (3, [.ref st, .ref wr, .ref rd])), (wr, .inr (2, [.ref wc, .ref wb, .int (nI bc), .int (nI rg), .int (nI lo), .int (nI wt), .int (nI sh), .int (nI bn), .int (nI wg), .int (nI bt), .int (nI hg)]))] sz) := by
  refine Met.ofW (cc := cX3_checkRoom) (maxL := 2) (ret := none) (by decide) rfl ?_
  intro p e s m args below meth c s₁ B hml hv
  obtain ⟨rfl, hsz, hP, hK, hD0, hev⟩ := hv
  have hx := B.exec
  have hb := B.bytes
  have hr := B.returns
  have hts := atoms_spec (ws := wsX3_checkRoom) B.pre
  have hown : s.vm.findClass RX3 = some m.cls := findClass_of_methodNamed B.named
  have hlocks := B.notSynchronized
  subst hsz
  have hD := hD0.self (sz := s.heap.size)
  clear hD0
  generalize hAe : va_A [(x, .inr (3, [.ref st, .ref wr, .ref rd])), (wr, .inr (2, [.ref wc, .ref wb, .int (nI bc), .int (nI rg), .int (nI lo), .int (nI wt), .int (nI sh), .int (nI bn), .int (nI wg), .int (nI bt), .int (nI hg)]))] s.heap.size = A at hD hev ⊢
  have hA : ∀ q : Nat, s.heap.size ≤ q → A q := fun q h => by rw [← hAe]; exact Or.inr h
  clear hAe
  have hS : va_S A s.heap s.heap [] := va_S.rf
  have hl := lv_entry ([.ref x, .int (nI mo)]) (n := 2) (Nat.le_of_ble_eq_true rfl)
  rw [lg_entry_eq]
  generalize (lg_sl ([.ref x, .int (nI mo)]) ++ List.replicate (2 - (lg_sl ([.ref x, .int (nI mo)])).length) Slot.unset).toArray = ls at hl ⊢
  have hl : lv_has ls 2 [(0, .ref x), (1, .int (nI mo))] := hl
  refine lv_aload_n hx hb dX3_checkRoom_0 rfl (lv_at hl 0 rfl) ?_
  have hPc := hP.sub (ws' := [(x, .inr (3, [.ref st, .ref wr, .ref rd])), (wr, .inr (2, [.ref wc, .ref wb, .int (nI bc), .int (nI rg), .int (nI lo), .int (nI wt), .int (nI sh), .int (nI bn), .int (nI wg), .int (nI bt), .int (nI hg)]))]) [0, 1] rfl
  have hDc := hD.sub (ws' := [(x, .inr (3, [.ref st, .ref wr, .ref rd])), (wr, .inr (2, [.ref wc, .ref wb, .int (nI bc), .int (nI rg), .int (nI lo), .int (nI wt), .int (nI sh), .int (nI bn), .int (nI wg), .int (nI bt), .int (nI hg)]))]) [0, 1] (by decide) rfl
  have hFc := va_free (wc := [(x, .inr (3, [.ref st, .ref wr, .ref rd])), (wr, .inr (2, [.ref wc, .ref wb, .int (nI bc), .int (nI rg), .int (nI lo), .int (nI wt), .int (nI sh), .int (nI bn), .int (nI wg), .int (nI bt), .int (nI hg)]))]) hD hS hA [0, 1] rfl
  refine va_callv (va_runV (As := []) (rest := []) ⟨hx, hb, hml, hown, hts⟩ (k_X3_checkWriting l D cI x st wr rd wc wb s.heap.size bc rg lo wt sh bn wg bt hg (by omega)) (cwV 0 hts gX3_checkRoom_X3_checkWriting rfl rfl rfl (by decide +kernel) ⟨Nat.le_of_ble_eq_true rfl, Nat.le_of_ble_eq_true rfl⟩) ⟨kP_blind, va_recv hK hPc (ci := 3) (q0 := 0) rfl rfl, kP_pre hPc hK hDc evo_none⟩ rfl rfl hl.1 rfl (lv_room (Nat.le_of_ble_eq_true rfl)) dX3_checkRoom_1 ⟨Nat.le_of_ble_eq_true rfl, Nat.le_of_ble_eq_true rfl⟩) hS (fun q _ h => hFc q h) hFc (fun u t H1 locs ht hvm hw_1 hB hz1 hk1 hS => ?_)
  obtain ⟨hP1, hK1, hD1⟩ := hB
  rw [ht] at hP1
  obtain ⟨hP, hD⟩ := va_join (wc := [(x, .inr (3, [.ref st, .ref wr, .ref rd])), (wr, .inr (2, [.ref wc, .ref wb, .int (nI bc), .int (nI rg), .int (nI lo), .int (nI wt), .int (nI sh), .int (nI bn), .int (nI wg), .int (nI bt), .int (nI hg)]))]) (wr := []) (w1 := [(x, .inr (3, [.ref st, .ref wr, .ref rd])), (wr, .inr (2, [.ref wc, .ref wb, .int (nI bc), .int (nI rg), .int (nI lo), .int (nI wt), .int (nI sh), .int (nI bn), .int (nI wg), .int (nI bt), .int (nI hg)]))]) hP hD [0, 1] [] rfl rfl (by decide) (by decide) hk1 hFc hP1 hD1
  clear hP1 hK1 hD1 hPc hDc hFc hk1 hz1 hvm ht
  have hP : va_P D vwCl [(x, .inr (3, [.ref st, .ref wr, .ref rd])), (wr, .inr (2, [.ref wc, .ref wb, .int (nI bc), .int (nI rg), .int (nI lo), .int (nI wt), .int (nI sh), .int (nI bn), .int (nI wg), .int (nI bt), .int (nI hg)]))] H1 := hP.sub [0, 1] rfl
  have hD : va_D A [(x, .inr (3, [.ref st, .ref wr, .ref rd])), (wr, .inr (2, [.ref wc, .ref wb, .int (nI bc), .int (nI rg), .int (nI lo), .int (nI wt), .int (nI sh), .int (nI bn), .int (nI wg), .int (nI bt), .int (nI hg)]))] := hD.sub [0, 1] (by decide) rfl
  try dsimp only at hw_1
  refine lv_aload_n hx hb dX3_checkRoom_4 rfl (lv_at hl 0 rfl) ?_
  refine va_get (D := D) (ci := 3) (v := .ref wr) (C := RX3) (T := TX3) (N := 3) hx hb hts iw_k_X3_checkRoom_3 hown hK hP 0 rfl rfl 1 (by decide) (hts (.fieldLink RX3 19 "BinStreams" "writer" "LBinStreams$Writer;") (by decide +kernel)) (fun _ h9 => h9) rfl dX3_checkRoom_5 ?_
  refine va_get (D := D) (ci := 2) (v := .int (nI bn)) (C := RX2) (T := TX2) (N := 11) hx hb hts iw_k_X3_checkRoom_2 hown hK hP 1 rfl rfl 7 (by decide) (hts (.fieldLink RX3 162 "BinStreams$Writer" "bins" "I") (by decide +kernel)) (fun _ h9 => h9) rfl dX3_checkRoom_8 ?_
  refine lv_iload_n hx hb dX3_checkRoom_11 rfl (lv_at hl 1 rfl) ?_
  refine wk_iadd hx hb dX3_checkRoom_12 ?_
  refine lv_sipush (v := nI 400) hx hb dX3_checkRoom_13 (by decide) ?_
  refine wk_le (tgt := 29) hx hb dX3_checkRoom_16 (by decide) (by omega) (by omega) (fun c_16 => ?_) (fun c_16 => absurd c_16 (by omega))
  exact W.vret hx hb hr (fun t ht hW => ⟨⟨(), rfl, trivial, by rw [ht]; exact hP, va_K.moved hW.alike hK, hD⟩, hS.F ht⟩) hS.2.2 dX3_checkRoom_29

theorem iw_x_X3_checkRoom_2 : ∀ w ∈ u_ws RX2 TX2 11, w ∈ wsX3_checkRoom := by decide +kernel
theorem iw_x_X3_checkRoom_3 : ∀ w ∈ u_ws RX3 TX3 3, w ∈ wsX3_checkRoom := by decide +kernel
theorem xw_x_X3_checkRoom_IS : ∀ w ∈ (vx_atS RX3 120 xIS xUp).filter goodWord, w ∈ wsX3_checkRoom := by decide +kernel
set_option maxHeartbeats 1000000 in
set_option maxRecDepth 100000 in
/-- the check throws -/
theorem x_X3_checkRoom (l : Launch) (hlt : l.stackTraces = false) (D : va_G) (cI : ClassId) (ep : EP) (x st wr rd wc wb : Nat) (sz : Nat) (mo : Nat) (bc : Nat) (rg : Nat) (lo : Nat) (wt : Nat) (sh : Nat) (bn : Nat) (wg : Nat) (bt : Nat) (hg : Nat) (hno : ¬ (wg = 1 ∧ bn + mo ≤ 400)) (hwg : wg ≤ 1) (hbn : bn ≤ 400) (hmo : mo < 1000) : vx_Met l yX3_checkRoom wsX3_checkRoom ({ frames := 7, cells := 1, slots := 6, locals := 102 }) (kPx D ep [.ref x, .int (nI mo)] [(cI, .int)] [(x, .inr (3, [.ref st, .ref wr, .ref rd])), (wr, .inr (2, [.ref wc, .ref wb, .int (nI bc), .int (nI rg), .int (nI lo), .int (nI wt), .int (nI sh), .int (nI bn), .int (nI wg), .int (nI bt), .int (nI hg)]))] sz) (va_Qv (fun (u : Unit) => match u with | () => False) (fun u t => match u with | () => kB D [(cI, .int)] (va_A [(x, .inr (3, [.ref st, .ref wr, .ref rd])), (wr, .inr (2, [.ref wc, .ref wb, .int (nI bc), .int (nI rg), .int (nI lo), .int (nI wt), .int (nI sh), .int (nI bn), .int (nI wg), .int (nI bt), .int (nI hg)]))] sz) [(x, .inr (3, [.ref st, .ref wr, .ref rd])), (wr, .inr (2, [.ref wc, .ref wb, .int (nI bc), .int (nI rg), .int (nI lo), .int (nI wt), .int (nI sh), .int (nI bn), .int (nI wg), .int (nI bt), .int (nI hg)]))] t) (va_A [(x, .inr (3, [.ref st, .ref wr, .ref rd])), (wr, .inr (2, [.ref wc, .ref wb, .int (nI bc), .int (nI rg), .int (nI lo), .int (nI wt), .int (nI sh), .int (nI bn), .int (nI wg), .int (nI bt), .int (nI hg)]))] sz)) (vx_X (fun (_ : Unit) => True) (fun (E : String) (_ : Unit) t => (E = xIS) ∧ kB D [(cI, .int)] (va_A [(x, .inr (3, [.ref st, .ref wr, .ref rd])), (wr, .inr (2, [.ref wc, .ref wb, .int (nI bc), .int (nI rg), .int (nI lo), .int (nI wt), .int (nI sh), .int (nI bn), .int (nI wg), .int (nI bt), .int (nI hg)]))] sz) [(x, .inr (3, [.ref st, .ref wr, .ref rd])), (wr, .inr (2, [.ref wc, .ref wb, .int (nI bc), .int (nI rg), .int (nI lo), .int (nI wt), .int (nI sh), .int (nI bn), .int (nI wg), .int (nI bt), .int (nI hg)]))] t) (va_A [(x, .inr (3, [.ref st, .ref wr, .ref rd])), (wr, .inr (2, [.ref wc, .ref wb, .int (nI bc), .int (nI rg), .int (nI lo), .int (nI wt), .int (nI sh), .int (nI bn), .int (nI wg), .int (nI bt), .int (nI hg)]))] sz)) 1 6 (va_A [(x, .inr (3, [.ref st, .ref wr, .ref rd])), (wr, .inr (2, [.ref wc, .ref wb, .int (nI bc), .int (nI rg), .int (nI lo), .int (nI wt), .int (nI sh), .int (nI bn), .int (nI wg), .int (nI bt), .int (nI hg)]))] sz) := by
  refine vx_ofW (cc := cX3_checkRoom) (maxL := 2) (ret := none) (by decide) rfl ?_
  intro p e s m args below meth c s₁ B hml hnoh hv
  obtain ⟨rfl, hsz, hP, hK, hD0, hev, hevx⟩ := hv
  have hx := B.exec
  have hb := B.bytes
  have hr := B.returns
  have hts := atoms_spec (ws := wsX3_checkRoom) B.pre
  have hown : s.vm.findClass RX3 = some m.cls := findClass_of_methodNamed B.named
  have hlocks := B.notSynchronized
  subst hsz
  have hD := hD0.self (sz := s.heap.size)
  clear hD0
  generalize hAe : va_A [(x, .inr (3, [.ref st, .ref wr, .ref rd])), (wr, .inr (2, [.ref wc, .ref wb, .int (nI bc), .int (nI rg), .int (nI lo), .int (nI wt), .int (nI sh), .int (nI bn), .int (nI wg), .int (nI bt), .int (nI hg)]))] s.heap.size = A at hD hev hevx ⊢
  have hev1 : ev ep A s s.heap := hev
  obtain ⟨⟨hZR, hTR, hZT, hTT⟩, hNR, hNT, hNC1, hNC2⟩ := hev1
  have hA : ∀ q : Nat, s.heap.size ≤ q → A q := fun q h => by rw [← hAe]; exact Or.inr h
  clear hAe
  have hS : va_S A s.heap s.heap [] := va_S.rf
  have hl := lv_entry ([.ref x, .int (nI mo)]) (n := 2) (Nat.le_of_ble_eq_true rfl)
  rw [lg_entry_eq]
  generalize (lg_sl ([.ref x, .int (nI mo)]) ++ List.replicate (2 - (lg_sl ([.ref x, .int (nI mo)])).length) Slot.unset).toArray = ls at hl ⊢
  have hl : lv_has ls 2 [(0, .ref x), (1, .int (nI mo))] := hl
  refine lv_aload_n hx hb dX3_checkRoom_0 rfl (lv_at hl 0 rfl) ?_
  by_cases hk_1 : wg = 1
  · have hPc := hP.sub (ws' := [(x, .inr (3, [.ref st, .ref wr, .ref rd])), (wr, .inr (2, [.ref wc, .ref wb, .int (nI bc), .int (nI rg), .int (nI lo), .int (nI wt), .int (nI sh), .int (nI bn), .int (nI wg), .int (nI bt), .int (nI hg)]))]) [0, 1] rfl
    have hDc := hD.sub (ws' := [(x, .inr (3, [.ref st, .ref wr, .ref rd])), (wr, .inr (2, [.ref wc, .ref wb, .int (nI bc), .int (nI rg), .int (nI lo), .int (nI wt), .int (nI sh), .int (nI bn), .int (nI wg), .int (nI bt), .int (nI hg)]))]) [0, 1] (by decide) rfl
    have hFc := va_free (wc := [(x, .inr (3, [.ref st, .ref wr, .ref rd])), (wr, .inr (2, [.ref wc, .ref wb, .int (nI bc), .int (nI rg), .int (nI lo), .int (nI wt), .int (nI sh), .int (nI bn), .int (nI wg), .int (nI bt), .int (nI hg)]))]) hD hS hA [0, 1] rfl
    refine va_callv (va_runV (As := []) (rest := []) ⟨hx, hb, hml, hown, hts⟩ (k_X3_checkWriting l D cI x st wr rd wc wb s.heap.size bc rg lo wt sh bn wg bt hg (by omega)) (cwV 0 hts gX3_checkRoom_X3_checkWriting rfl rfl rfl (by decide +kernel) ⟨Nat.le_of_ble_eq_true rfl, Nat.le_of_ble_eq_true rfl⟩) ⟨kP_blind, va_recv hK hPc (ci := 3) (q0 := 0) rfl rfl, kP_pre hPc hK hDc evo_none⟩ rfl rfl hl.1 rfl (lv_room (Nat.le_of_ble_eq_true rfl)) dX3_checkRoom_1 ⟨Nat.le_of_ble_eq_true rfl, Nat.le_of_ble_eq_true rfl⟩) hS (fun q _ h => hFc q h) hFc (fun u t H1 locs ht hvm hw_1 hB hz1 hk1 hS => ?_)
    obtain ⟨hP1, hK1, hD1⟩ := hB
    rw [ht] at hP1
    obtain ⟨hP, hD⟩ := va_join (wc := [(x, .inr (3, [.ref st, .ref wr, .ref rd])), (wr, .inr (2, [.ref wc, .ref wb, .int (nI bc), .int (nI rg), .int (nI lo), .int (nI wt), .int (nI sh), .int (nI bn), .int (nI wg), .int (nI bt), .int (nI hg)]))]) (wr := []) (w1 := [(x, .inr (3, [.ref st, .ref wr, .ref rd])), (wr, .inr (2, [.ref wc, .ref wb, .int (nI bc), .int (nI rg), .int (nI lo), .int (nI wt), .int (nI sh), .int (nI bn), .int (nI wg), .int (nI bt), .int (nI hg)]))]) hP hD [0, 1] [] rfl rfl (by decide) (by decide) hk1 hFc hP1 hD1
    clear hP1 hK1 hD1 hPc hDc hFc hk1 hz1 hvm ht
    have hP : va_P D vwCl [(x, .inr (3, [.ref st, .ref wr, .ref rd])), (wr, .inr (2, [.ref wc, .ref wb, .int (nI bc), .int (nI rg), .int (nI lo), .int (nI wt), .int (nI sh), .int (nI bn), .int (nI wg), .int (nI bt), .int (nI hg)]))] H1 := hP.sub [0, 1] rfl
    have hD : va_D A [(x, .inr (3, [.ref st, .ref wr, .ref rd])), (wr, .inr (2, [.ref wc, .ref wb, .int (nI bc), .int (nI rg), .int (nI lo), .int (nI wt), .int (nI sh), .int (nI bn), .int (nI wg), .int (nI bt), .int (nI hg)]))] := hD.sub [0, 1] (by decide) rfl
    try dsimp only at hw_1
    refine lv_aload_n hx hb dX3_checkRoom_4 rfl (lv_at hl 0 rfl) ?_
    refine va_get (D := D) (ci := 3) (v := .ref wr) (C := RX3) (T := TX3) (N := 3) hx hb hts iw_x_X3_checkRoom_3 hown hK hP 0 rfl rfl 1 (by decide) (hts (.fieldLink RX3 19 "BinStreams" "writer" "LBinStreams$Writer;") (by decide +kernel)) (fun _ h9 => h9) rfl dX3_checkRoom_5 ?_
    refine va_get (D := D) (ci := 2) (v := .int (nI bn)) (C := RX2) (T := TX2) (N := 11) hx hb hts iw_x_X3_checkRoom_2 hown hK hP 1 rfl rfl 7 (by decide) (hts (.fieldLink RX3 162 "BinStreams$Writer" "bins" "I") (by decide +kernel)) (fun _ h9 => h9) rfl dX3_checkRoom_8 ?_
    refine lv_iload_n hx hb dX3_checkRoom_11 rfl (lv_at hl 1 rfl) ?_
    refine wk_iadd hx hb dX3_checkRoom_12 ?_
    refine lv_sipush (v := nI 400) hx hb dX3_checkRoom_13 (by decide) ?_
    refine wk_le (tgt := 29) hx hb dX3_checkRoom_16 (by decide) (by omega) (by omega) (fun c_16 => absurd c_16 (by omega)) (fun c_16 => ?_)
    exact vx_throwS (own := RX3) (cls := xIS) (text := "no room for more bins") (names := xUp) (ik := 116) (is := 194) (ic := 120) (sa := ep.2.2 194) hx hb hlt hown (by decide) (by decide) (hts (.classLink RX3 116 xIS) (by decide +kernel)) (hts (.initialized xIS) (by decide +kernel)) (hevx.2.2.1 (194, "no room for more bins") (by decide)) (xh_IS hevx.2.2.2 (fun w h9 => hts w (xw_x_X3_checkRoom_IS w h9))) xg_IS hevx.1 hevx.2.1 hS (by rw [hml]; exact hl.1) dX3_checkRoom_19 dX3_checkRoom_22 dX3_checkRoom_23 dX3_checkRoom_25 dX3_checkRoom_28 (fun x h9 => (hnoh x h9).elim) (Nat.le_of_ble_eq_true rfl) (Nat.le_of_ble_eq_true rfl) (Nat.le_of_ble_eq_true rfl) (Nat.le_of_ble_eq_true rfl) hlocks (kx_end (C := fun E => E = xIS) hP hK hD hS (rfl)) hS.2.2 (Nat.le_of_ble_eq_true rfl) (Nat.le_of_ble_eq_true rfl)
  · have hPc := hP.sub (ws' := [(x, .inr (3, [.ref st, .ref wr, .ref rd])), (wr, .inr (2, [.ref wc, .ref wb, .int (nI bc), .int (nI rg), .int (nI lo), .int (nI wt), .int (nI sh), .int (nI bn), .int (nI wg), .int (nI bt), .int (nI hg)]))]) [0, 1] rfl
    have hDc := hD.sub (ws' := [(x, .inr (3, [.ref st, .ref wr, .ref rd])), (wr, .inr (2, [.ref wc, .ref wb, .int (nI bc), .int (nI rg), .int (nI lo), .int (nI wt), .int (nI sh), .int (nI bn), .int (nI wg), .int (nI bt), .int (nI hg)]))]) [0, 1] (by decide) rfl
    have hFc := va_free (wc := [(x, .inr (3, [.ref st, .ref wr, .ref rd])), (wr, .inr (2, [.ref wc, .ref wb, .int (nI bc), .int (nI rg), .int (nI lo), .int (nI wt), .int (nI sh), .int (nI bn), .int (nI wg), .int (nI bt), .int (nI hg)]))]) hD hS hA [0, 1] rfl
    refine vx_callv (vx_runV (As := []) (rest := []) ⟨hx, hb, hml, hown, hts⟩ (x_X3_checkWriting l hlt D cI ep x st wr rd wc wb s.heap.size bc rg lo wt sh bn wg bt hg (by omega) (by omega)) (cwV 0 hts gX3_checkRoom_X3_checkWriting rfl rfl rfl (by decide +kernel) ⟨Nat.le_of_ble_eq_true rfl, Nat.le_of_ble_eq_true rfl⟩) ⟨kPx_blind, va_recv hK hPc (ci := 3) (q0 := 0) rfl rfl, kPx_pre hPc hK hDc (evo_to hev hS hFc) (evX_to hevx hS hFc)⟩ rfl rfl hl.1 rfl (lv_room (Nat.le_of_ble_eq_true rfl)) dX3_checkRoom_1 ⟨Nat.le_of_ble_eq_true rfl, Nat.le_of_ble_eq_true rfl⟩) hS (fun q _ h => hFc q h) hFc (fun q _ h => hFc q h) (fun E ce q9 u t H1 locs ht hvm _ hB hz1 hk1 hS hce hcv hcl => ?_) (fun u t H1 locs ht hvm hw_2 hB hz1 hk1 hS => ?_)
    · obtain ⟨hc9, hB⟩ := hB
      obtain ⟨hP1, hK1, hD1⟩ := hB
      rw [ht] at hP1
      obtain ⟨hP, hD⟩ := va_join (wc := [(x, .inr (3, [.ref st, .ref wr, .ref rd])), (wr, .inr (2, [.ref wc, .ref wb, .int (nI bc), .int (nI rg), .int (nI lo), .int (nI wt), .int (nI sh), .int (nI bn), .int (nI wg), .int (nI bt), .int (nI hg)]))]) (wr := []) (w1 := [(x, .inr (3, [.ref st, .ref wr, .ref rd])), (wr, .inr (2, [.ref wc, .ref wb, .int (nI bc), .int (nI rg), .int (nI lo), .int (nI wt), .int (nI sh), .int (nI bn), .int (nI wg), .int (nI bt), .int (nI hg)]))]) hP hD [0, 1] [] rfl rfl (by decide) (by decide) hk1 hFc hP1 hD1
      clear hP1 hK1 hD1 hPc hDc hFc hk1 hz1 hvm ht
      have hP : va_P D vwCl [(x, .inr (3, [.ref st, .ref wr, .ref rd])), (wr, .inr (2, [.ref wc, .ref wb, .int (nI bc), .int (nI rg), .int (nI lo), .int (nI wt), .int (nI sh), .int (nI bn), .int (nI wg), .int (nI bt), .int (nI hg)]))] H1 := hP.sub [0, 1] rfl
      have hD : va_D A [(x, .inr (3, [.ref st, .ref wr, .ref rd])), (wr, .inr (2, [.ref wc, .ref wb, .int (nI bc), .int (nI rg), .int (nI lo), .int (nI wt), .int (nI sh), .int (nI bn), .int (nI wg), .int (nI bt), .int (nI hg)]))] := hD.sub [0, 1] (by decide) rfl
      exact vx_out (fun x h9 => (hnoh x h9).elim) hlocks hce hcv hcl (fun t ht hvm => ⟨(), trivial, ⟨hc9, by rw [ht]; exact hP, va_K.moved hvm hK, hD⟩, hS.F ht⟩) hS.2.2 (Nat.le_of_ble_eq_true rfl) (Nat.le_of_ble_eq_true rfl)
    · exact hw_2.elim

theorem iw_k_X3_checkByteIndex_2 : ∀ w ∈ u_ws RX2 TX2 11, w ∈ wsX3_checkByteIndex := by decide +kernel
theorem iw_k_X3_checkByteIndex_3 : ∀ w ∈ u_ws RX3 TX3 3, w ∈ wsX3_checkByteIndex := by decide +kernel
set_option maxHeartbeats 1000000 in
set_option maxRecDepth 100000 in
/-- the check passes -/
theorem k_X3_checkByteIndex (l : Launch) (D : va_G) (cI : ClassId) (x st wr rd wc wb : Nat) (sz : Nat) (x1 : Int32) (bc : Nat) (rg : Nat) (lo : Nat) (wt : Nat) (sh : Nat) (bn : Nat) (wg : Nat) (bt : Nat) (hg : Nat) (hok : inR x1 bc = true) (hbc : bc ≤ 302) : Met l yX3_checkByteIndex wsX3_checkByteIndex ({ frames := 0, cells := 0, slots := 0, locals := 0 }) (kP D none [.ref x, .int x1] [(cI, .int)] [(x, .inr (3, [.ref st, .ref wr, .ref rd])), (wr, .inr (2, [.ref wc, .ref wb, .int (nI bc), .int (nI rg), .int (nI lo), .int (nI wt), .int (nI sh), .int (nI bn), .int (nI wg), .int (nI bt), .int (nI hg)]))] sz) (va_Qv (fun (u : Unit) => match u with | () => True) (fun u t => match u with | () => kB D [(cI, .int)] (va_A [(x, .inr (3, [.ref st, .ref wr, .ref rd])), (wr, .inr (2, [.ref wc, .ref wb, .int (nI bc), .int (nI rg), .int (nI lo), .int (nI wt), .int (nI sh), .int (nI bn), .int (nI wg), .int (nI bt), .int (nI hg)]))] sz) [(x, .inr (3, [.ref st, .ref wr, .ref rd])), (wr, .inr (2, [.ref wc, .ref wb, .int (nI bc), .int (nI rg), .int (nI lo), .int (nI wt), .int (nI sh), .int (nI bn), .int (nI wg), .int (nI bt), .int (nI hg)]))] t) (va_A [(x, .inr (3, [.ref st, .ref wr, .ref rd])), (wr, .inr (2, [.ref wc, .ref wb, .int (nI bc), .int (nI rg), .int (nI lo), .int (nI wt), .int (nI sh), .int (nI bn), .int (nI wg), .int (nI bt), .int (nI hg)]))] sz)) 0 0 (va_A [(x, .inr (3, [.ref st, .ref wr, .ref rd])), (wr, .inr (2, [.ref wc, .ref wb, .int (nI bc), .int (nI rg), .int (nI lo), .int (nI wt), .int (nI sh), .int (nI bn), .int (nI wg), .int (nI bt), .int (nI hg)]))] sz) := by
  refine Met.ofW (cc := cX3_checkByteIndex) (maxL := 2) (ret := none) (by decide) rfl ?_
  intro p e s m args below meth c s₁ B hml hv
  obtain ⟨rfl, hsz, hP, hK, hD0, hev⟩ := hv
  have hx := B.exec
  have hb := B.bytes
  have hr := B.returns
  have hts := atoms_spec (ws := wsX3_checkByteIndex) B.pre
  have hown : s.vm.findClass RX3 = some m.cls := findClass_of_methodNamed B.named
  have hlocks := B.notSynchronized
  subst hsz
  have hD := hD0.self (sz := s.heap.size)
  clear hD0
  generalize hAe : va_A [(x, .inr (3, [.ref st, .ref wr, .ref rd])), (wr, .inr (2, [.ref wc, .ref wb, .int (nI bc), .int (nI rg), .int (nI lo), .int (nI wt), .int (nI sh), .int (nI bn), .int (nI wg), .int (nI bt), .int (nI hg)]))] s.heap.size = A at hD hev ⊢
  have hA : ∀ q : Nat, s.heap.size ≤ q → A q := fun q h => by rw [← hAe]; exact Or.inr h
  clear hAe
  have hS : va_S A s.heap s.heap [] := va_S.rf
  have hl := lv_entry ([.ref x, .int x1]) (n := 2) (Nat.le_of_ble_eq_true rfl)
  rw [lg_entry_eq]
  generalize (lg_sl ([.ref x, .int x1]) ++ List.replicate (2 - (lg_sl ([.ref x, .int x1])).length) Slot.unset).toArray = ls at hl ⊢
  have hl : lv_has ls 2 [(0, .ref x), (1, .int x1)] := hl
  refine lv_iload_n hx hb dX3_checkByteIndex_0 rfl (lv_at hl 1 rfl) ?_
  refine lv_if_lt (tgt := 15) hx hb dX3_checkByteIndex_1 (by decide)  (fun c_1 => absurd c_1 (by exact inR_pos hok)) (fun c_1 => ?_)
  refine lv_iload_n hx hb dX3_checkByteIndex_4 rfl (lv_at hl 1 rfl) ?_
  refine lv_aload_n hx hb dX3_checkByteIndex_5 rfl (lv_at hl 0 rfl) ?_
  refine va_get (D := D) (ci := 3) (v := .ref wr) (C := RX3) (T := TX3) (N := 3) hx hb hts iw_k_X3_checkByteIndex_3 hown hK hP 0 rfl rfl 1 (by decide) (hts (.fieldLink RX3 19 "BinStreams" "writer" "LBinStreams$Writer;") (by decide +kernel)) (fun _ h9 => h9) rfl dX3_checkByteIndex_6 ?_
  refine va_get (D := D) (ci := 2) (v := .int (nI bc)) (C := RX2) (T := TX2) (N := 11) hx hb hts iw_k_X3_checkByteIndex_2 hown hK hP 1 rfl rfl 2 (by decide) (hts (.fieldLink RX3 104 "BinStreams$Writer" "byteCount" "I") (by decide +kernel)) (fun _ h9 => h9) rfl dX3_checkByteIndex_9 ?_
  refine lv_icmp_lt (tgt := 25) hx hb dX3_checkByteIndex_12 (by decide)  (fun c_12 => ?_) (fun c_12 => absurd c_12 (by exact fun z => z (inR_lt hok (by omega))))
  exact W.vret hx hb hr (fun t ht hW => ⟨⟨(), rfl, trivial, by rw [ht]; exact hP, va_K.moved hW.alike hK, hD⟩, hS.F ht⟩) hS.2.2 dX3_checkByteIndex_25

theorem iw_x_X3_checkByteIndex_2 : ∀ w ∈ u_ws RX2 TX2 11, w ∈ wsX3_checkByteIndex := by decide +kernel
theorem iw_x_X3_checkByteIndex_3 : ∀ w ∈ u_ws RX3 TX3 3, w ∈ wsX3_checkByteIndex := by decide +kernel
theorem xw_x_X3_checkByteIndex_IO : ∀ w ∈ (vx_atS RX3 175 xIO xUp).filter goodWord, w ∈ wsX3_checkByteIndex := by decide +kernel
set_option maxHeartbeats 1000000 in
set_option maxRecDepth 100000 in
/-- the check throws -/
theorem x_X3_checkByteIndex (l : Launch) (hlt : l.stackTraces = false) (D : va_G) (cI : ClassId) (ep : EP) (x st wr rd wc wb : Nat) (sz : Nat) (x1 : Int32) (bc : Nat) (rg : Nat) (lo : Nat) (wt : Nat) (sh : Nat) (bn : Nat) (wg : Nat) (bt : Nat) (hg : Nat) (hno : ¬ inR x1 bc = true) (hbc : bc ≤ 302) : vx_Met l yX3_checkByteIndex wsX3_checkByteIndex ({ frames := 6, cells := 1, slots := 6, locals := 82 }) (kPx D ep [.ref x, .int x1] [(cI, .int)] [(x, .inr (3, [.ref st, .ref wr, .ref rd])), (wr, .inr (2, [.ref wc, .ref wb, .int (nI bc), .int (nI rg), .int (nI lo), .int (nI wt), .int (nI sh), .int (nI bn), .int (nI wg), .int (nI bt), .int (nI hg)]))] sz) (va_Qv (fun (u : Unit) => match u with | () => False) (fun u t => match u with | () => kB D [(cI, .int)] (va_A [(x, .inr (3, [.ref st, .ref wr, .ref rd])), (wr, .inr (2, [.ref wc, .ref wb, .int (nI bc), .int (nI rg), .int (nI lo), .int (nI wt), .int (nI sh), .int (nI bn), .int (nI wg), .int (nI bt), .int (nI hg)]))] sz) [(x, .inr (3, [.ref st, .ref wr, .ref rd])), (wr, .inr (2, [.ref wc, .ref wb, .int (nI bc), .int (nI rg), .int (nI lo), .int (nI wt), .int (nI sh), .int (nI bn), .int (nI wg), .int (nI bt), .int (nI hg)]))] t) (va_A [(x, .inr (3, [.ref st, .ref wr, .ref rd])), (wr, .inr (2, [.ref wc, .ref wb, .int (nI bc), .int (nI rg), .int (nI lo), .int (nI wt), .int (nI sh), .int (nI bn), .int (nI wg), .int (nI bt), .int (nI hg)]))] sz)) (vx_X (fun (_ : Unit) => True) (fun (E : String) (_ : Unit) t => (E = xIO) ∧ kB D [(cI, .int)] (va_A [(x, .inr (3, [.ref st, .ref wr, .ref rd])), (wr, .inr (2, [.ref wc, .ref wb, .int (nI bc), .int (nI rg), .int (nI lo), .int (nI wt), .int (nI sh), .int (nI bn), .int (nI wg), .int (nI bt), .int (nI hg)]))] sz) [(x, .inr (3, [.ref st, .ref wr, .ref rd])), (wr, .inr (2, [.ref wc, .ref wb, .int (nI bc), .int (nI rg), .int (nI lo), .int (nI wt), .int (nI sh), .int (nI bn), .int (nI wg), .int (nI bt), .int (nI hg)]))] t) (va_A [(x, .inr (3, [.ref st, .ref wr, .ref rd])), (wr, .inr (2, [.ref wc, .ref wb, .int (nI bc), .int (nI rg), .int (nI lo), .int (nI wt), .int (nI sh), .int (nI bn), .int (nI wg), .int (nI bt), .int (nI hg)]))] sz)) 1 6 (va_A [(x, .inr (3, [.ref st, .ref wr, .ref rd])), (wr, .inr (2, [.ref wc, .ref wb, .int (nI bc), .int (nI rg), .int (nI lo), .int (nI wt), .int (nI sh), .int (nI bn), .int (nI wg), .int (nI bt), .int (nI hg)]))] sz) := by
  refine vx_ofW (cc := cX3_checkByteIndex) (maxL := 2) (ret := none) (by decide) rfl ?_
  intro p e s m args below meth c s₁ B hml hnoh hv
  obtain ⟨rfl, hsz, hP, hK, hD0, hev, hevx⟩ := hv
  have hx := B.exec
  have hb := B.bytes
  have hr := B.returns
  have hts := atoms_spec (ws := wsX3_checkByteIndex) B.pre
  have hown : s.vm.findClass RX3 = some m.cls := findClass_of_methodNamed B.named
  have hlocks := B.notSynchronized
  subst hsz
  have hD := hD0.self (sz := s.heap.size)
  clear hD0
  generalize hAe : va_A [(x, .inr (3, [.ref st, .ref wr, .ref rd])), (wr, .inr (2, [.ref wc, .ref wb, .int (nI bc), .int (nI rg), .int (nI lo), .int (nI wt), .int (nI sh), .int (nI bn), .int (nI wg), .int (nI bt), .int (nI hg)]))] s.heap.size = A at hD hev hevx ⊢
  have hev1 : ev ep A s s.heap := hev
  obtain ⟨⟨hZR, hTR, hZT, hTT⟩, hNR, hNT, hNC1, hNC2⟩ := hev1
  have hA : ∀ q : Nat, s.heap.size ≤ q → A q := fun q h => by rw [← hAe]; exact Or.inr h
  clear hAe
  have hS : va_S A s.heap s.heap [] := va_S.rf
  have hl := lv_entry ([.ref x, .int x1]) (n := 2) (Nat.le_of_ble_eq_true rfl)
  rw [lg_entry_eq]
  generalize (lg_sl ([.ref x, .int x1]) ++ List.replicate (2 - (lg_sl ([.ref x, .int x1])).length) Slot.unset).toArray = ls at hl ⊢
  have hl : lv_has ls 2 [(0, .ref x), (1, .int x1)] := hl
  refine lv_iload_n hx hb dX3_checkByteIndex_0 rfl (lv_at hl 1 rfl) ?_
  refine lv_if_lt (tgt := 15) hx hb dX3_checkByteIndex_1 (by decide)  (fun c_1 => ?_) (fun c_1 => ?_)
  · exact vx_throwS (own := RX3) (cls := xIO) (text := "no such byte") (names := xUp) (ik := 171) (is := 196) (ic := 175) (sa := ep.2.2 196) hx hb hlt hown (by decide) (by decide) (hts (.classLink RX3 171 xIO) (by decide +kernel)) (hts (.initialized xIO) (by decide +kernel)) (hevx.2.2.1 (196, "no such byte") (by decide)) (xh_IO hevx.2.2.2 (fun w h9 => hts w (xw_x_X3_checkByteIndex_IO w h9))) xg_IO hevx.1 hevx.2.1 hS (by rw [hml]; exact hl.1) dX3_checkByteIndex_15 dX3_checkByteIndex_18 dX3_checkByteIndex_19 dX3_checkByteIndex_21 dX3_checkByteIndex_24 (fun x h9 => (hnoh x h9).elim) (Nat.le_of_ble_eq_true rfl) (Nat.le_of_ble_eq_true rfl) (Nat.le_of_ble_eq_true rfl) (Nat.le_of_ble_eq_true rfl) hlocks (kx_end (C := fun E => E = xIO) hP hK hD hS (rfl)) hS.2.2 (Nat.le_of_ble_eq_true rfl) (Nat.le_of_ble_eq_true rfl)
  · refine lv_iload_n hx hb dX3_checkByteIndex_4 rfl (lv_at hl 1 rfl) ?_
    refine lv_aload_n hx hb dX3_checkByteIndex_5 rfl (lv_at hl 0 rfl) ?_
    refine va_get (D := D) (ci := 3) (v := .ref wr) (C := RX3) (T := TX3) (N := 3) hx hb hts iw_x_X3_checkByteIndex_3 hown hK hP 0 rfl rfl 1 (by decide) (hts (.fieldLink RX3 19 "BinStreams" "writer" "LBinStreams$Writer;") (by decide +kernel)) (fun _ h9 => h9) rfl dX3_checkByteIndex_6 ?_
    refine va_get (D := D) (ci := 2) (v := .int (nI bc)) (C := RX2) (T := TX2) (N := 11) hx hb hts iw_x_X3_checkByteIndex_2 hown hK hP 1 rfl rfl 2 (by decide) (hts (.fieldLink RX3 104 "BinStreams$Writer" "byteCount" "I") (by decide +kernel)) (fun _ h9 => h9) rfl dX3_checkByteIndex_9 ?_
    refine lv_icmp_lt (tgt := 25) hx hb dX3_checkByteIndex_12 (by decide)  (fun c_12 => absurd c_12 (by exact fun z => hno (inR_of c_1 z (by omega)))) (fun c_12 => ?_)
    exact vx_throwS (own := RX3) (cls := xIO) (text := "no such byte") (names := xUp) (ik := 171) (is := 196) (ic := 175) (sa := ep.2.2 196) hx hb hlt hown (by decide) (by decide) (hts (.classLink RX3 171 xIO) (by decide +kernel)) (hts (.initialized xIO) (by decide +kernel)) (hevx.2.2.1 (196, "no such byte") (by decide)) (xh_IO hevx.2.2.2 (fun w h9 => hts w (xw_x_X3_checkByteIndex_IO w h9))) xg_IO hevx.1 hevx.2.1 hS (by rw [hml]; exact hl.1) dX3_checkByteIndex_15 dX3_checkByteIndex_18 dX3_checkByteIndex_19 dX3_checkByteIndex_21 dX3_checkByteIndex_24 (fun x h9 => (hnoh x h9).elim) (Nat.le_of_ble_eq_true rfl) (Nat.le_of_ble_eq_true rfl) (Nat.le_of_ble_eq_true rfl) (Nat.le_of_ble_eq_true rfl) hlocks (kx_end (C := fun E => E = xIO) hP hK hD hS (rfl)) hS.2.2 (Nat.le_of_ble_eq_true rfl) (Nat.le_of_ble_eq_true rfl)

theorem iw_k_X3_checkReading_1 : ∀ w ∈ u_ws RX1 TX1 7, w ∈ wsX3_checkReading := by decide +kernel
theorem iw_k_X3_checkReading_3 : ∀ w ∈ u_ws RX3 TX3 3, w ∈ wsX3_checkReading := by decide +kernel
set_option maxHeartbeats 1000000 in
set_option maxRecDepth 100000 in
/-- the check passes -/
theorem k_X3_checkReading (l : Launch) (D : va_G) (cI : ClassId) (x st wr rd rc rb : Nat) (sz : Nat) (pl : Nat) (has : Nat) (rg : Nat) (of : Nat) (rdg : Nat) (hok : rdg = 1) : Met l yX3_checkReading wsX3_checkReading ({ frames := 0, cells := 0, slots := 0, locals := 0 }) (kP D none [.ref x] [(cI, .int)] [(x, .inr (3, [.ref st, .ref wr, .ref rd])), (rd, .inr (1, [.ref rc, .int (nI rg), .int (nI of), .int (nI rdg), .ref rb, .int (nI (8 * has)), .int (nI (min pl (8 * has)))]))] sz) (va_Qv (fun (u : Unit) => match u with | () => True) (fun u t => match u with | () => kB D [(cI, .int)] (va_A [(x, .inr (3, [.ref st, .ref wr, .ref rd])), (rd, .inr (1, [.ref rc, .int (nI rg), .int (nI of), .int (nI rdg), .ref rb, .int (nI (8 * has)), .int (nI (min pl (8 * has)))]))] sz) [(x, .inr (3, [.ref st, .ref wr, .ref rd])), (rd, .inr (1, [.ref rc, .int (nI rg), .int (nI of), .int (nI rdg), .ref rb, .int (nI (8 * has)), .int (nI (min pl (8 * has)))]))] t) (va_A [(x, .inr (3, [.ref st, .ref wr, .ref rd])), (rd, .inr (1, [.ref rc, .int (nI rg), .int (nI of), .int (nI rdg), .ref rb, .int (nI (8 * has)), .int (nI (min pl (8 * has)))]))] sz)) 0 0 (va_A [(x, .inr (3, [.ref st, .ref wr, .ref rd])), (rd, .inr (1, [.ref rc, .int (nI rg), .int (nI of), .int (nI rdg), .ref rb, .int (nI (8 * has)), .int (nI (min pl (8 * has)))]))] sz) := by
  refine Met.ofW (cc := cX3_checkReading) (maxL := 1) (ret := none) (by decide) rfl ?_
  intro p e s m args below meth c s₁ B hml hv
  obtain ⟨rfl, hsz, hP, hK, hD0, hev⟩ := hv
  have hx := B.exec
  have hb := B.bytes
  have hr := B.returns
  have hts := atoms_spec (ws := wsX3_checkReading) B.pre
  have hown : s.vm.findClass RX3 = some m.cls := findClass_of_methodNamed B.named
  have hlocks := B.notSynchronized
  subst hsz
  have hD := hD0.self (sz := s.heap.size)
  clear hD0
  generalize hAe : va_A [(x, .inr (3, [.ref st, .ref wr, .ref rd])), (rd, .inr (1, [.ref rc, .int (nI rg), .int (nI of), .int (nI rdg), .ref rb, .int (nI (8 * has)), .int (nI (min pl (8 * has)))]))] s.heap.size = A at hD hev ⊢
  have hA : ∀ q : Nat, s.heap.size ≤ q → A q := fun q h => by rw [← hAe]; exact Or.inr h
  clear hAe
  have hS : va_S A s.heap s.heap [] := va_S.rf
  have hl := lv_entry ([.ref x]) (n := 1) (Nat.le_of_ble_eq_true rfl)
  rw [lg_entry_eq]
  generalize (lg_sl ([.ref x]) ++ List.replicate (1 - (lg_sl ([.ref x])).length) Slot.unset).toArray = ls at hl ⊢
  have hl : lv_has ls 1 [(0, .ref x)] := hl
  refine lv_aload_n hx hb dX3_checkReading_0 rfl (lv_at hl 0 rfl) ?_
  refine va_get (D := D) (ci := 3) (v := .ref rd) (C := RX3) (T := TX3) (N := 3) hx hb hts iw_k_X3_checkReading_3 hown hK hP 0 rfl rfl 2 (by decide) (hts (.fieldLink RX3 26 "BinStreams" "reader" "LBinStreams$Reader;") (by decide +kernel)) (fun _ h9 => h9) rfl dX3_checkReading_1 ?_
  refine va_get (D := D) (ci := 1) (v := .int (nI rdg)) (C := RX1) (T := TX1) (N := 7) hx hb hts iw_k_X3_checkReading_1 hown hK hP 1 rfl rfl 3 (by decide) (hts (.fieldLink RX3 198 "BinStreams$Reader" "reading" "Z") (by decide +kernel)) (fun _ h9 => h9) rfl dX3_checkReading_4 ?_
  refine wk_if_ne (tgt := 20) hx hb dX3_checkReading_7 (by decide) (by omega) (fun c_7 => ?_) (fun c_7 => absurd c_7 (by omega))
  exact W.vret hx hb hr (fun t ht hW => ⟨⟨(), rfl, trivial, by rw [ht]; exact hP, va_K.moved hW.alike hK, hD⟩, hS.F ht⟩) hS.2.2 dX3_checkReading_20

theorem iw_x_X3_checkReading_1 : ∀ w ∈ u_ws RX1 TX1 7, w ∈ wsX3_checkReading := by decide +kernel
theorem iw_x_X3_checkReading_3 : ∀ w ∈ u_ws RX3 TX3 3, w ∈ wsX3_checkReading := by decide +kernel
theorem xw_x_X3_checkReading_IS : ∀ w ∈ (vx_atS RX3 120 xIS xUp).filter goodWord, w ∈ wsX3_checkReading := by decide +kernel
set_option maxHeartbeats 1000000 in
set_option maxRecDepth 100000 in
/-- the check throws -/
theorem x_X3_checkReading (l : Launch) (hlt : l.stackTraces = false) (D : va_G) (cI : ClassId) (ep : EP) (x st wr rd rc rb : Nat) (sz : Nat) (pl : Nat) (has : Nat) (rg : Nat) (of : Nat) (rdg : Nat) (hno : ¬ rdg = 1) (hrd : rdg ≤ 1) : vx_Met l yX3_checkReading wsX3_checkReading ({ frames := 6, cells := 1, slots := 6, locals := 82 }) (kPx D ep [.ref x] [(cI, .int)] [(x, .inr (3, [.ref st, .ref wr, .ref rd])), (rd, .inr (1, [.ref rc, .int (nI rg), .int (nI of), .int (nI rdg), .ref rb, .int (nI (8 * has)), .int (nI (min pl (8 * has)))]))] sz) (va_Qv (fun (u : Unit) => match u with | () => False) (fun u t => match u with | () => kB D [(cI, .int)] (va_A [(x, .inr (3, [.ref st, .ref wr, .ref rd])), (rd, .inr (1, [.ref rc, .int (nI rg), .int (nI of), .int (nI rdg), .ref rb, .int (nI (8 * has)), .int (nI (min pl (8 * has)))]))] sz) [(x, .inr (3, [.ref st, .ref wr, .ref rd])), (rd, .inr (1, [.ref rc, .int (nI rg), .int (nI of), .int (nI rdg), .ref rb, .int (nI (8 * has)), .int (nI (min pl (8 * has)))]))] t) (va_A [(x, .inr (3, [.ref st, .ref wr, .ref rd])), (rd, .inr (1, [.ref rc, .int (nI rg), .int (nI of), .int (nI rdg), .ref rb, .int (nI (8 * has)), .int (nI (min pl (8 * has)))]))] sz)) (vx_X (fun (_ : Unit) => True) (fun (E : String) (_ : Unit) t => (E = xIS) ∧ kB D [(cI, .int)] (va_A [(x, .inr (3, [.ref st, .ref wr, .ref rd])), (rd, .inr (1, [.ref rc, .int (nI rg), .int (nI of), .int (nI rdg), .ref rb, .int (nI (8 * has)), .int (nI (min pl (8 * has)))]))] sz) [(x, .inr (3, [.ref st, .ref wr, .ref rd])), (rd, .inr (1, [.ref rc, .int (nI rg), .int (nI of), .int (nI rdg), .ref rb, .int (nI (8 * has)), .int (nI (min pl (8 * has)))]))] t) (va_A [(x, .inr (3, [.ref st, .ref wr, .ref rd])), (rd, .inr (1, [.ref rc, .int (nI rg), .int (nI of), .int (nI rdg), .ref rb, .int (nI (8 * has)), .int (nI (min pl (8 * has)))]))] sz)) 1 6 (va_A [(x, .inr (3, [.ref st, .ref wr, .ref rd])), (rd, .inr (1, [.ref rc, .int (nI rg), .int (nI of), .int (nI rdg), .ref rb, .int (nI (8 * has)), .int (nI (min pl (8 * has)))]))] sz) := by
  refine vx_ofW (cc := cX3_checkReading) (maxL := 1) (ret := none) (by decide) rfl ?_
  intro p e s m args below meth c s₁ B hml hnoh hv
  obtain ⟨rfl, hsz, hP, hK, hD0, hev, hevx⟩ := hv
  have hx := B.exec
  have hb := B.bytes
  have hr := B.returns
  have hts := atoms_spec (ws := wsX3_checkReading) B.pre
  have hown : s.vm.findClass RX3 = some m.cls := findClass_of_methodNamed B.named
  have hlocks := B.notSynchronized
  subst hsz
  have hD := hD0.self (sz := s.heap.size)
  clear hD0
  generalize hAe : va_A [(x, .inr (3, [.ref st, .ref wr, .ref rd])), (rd, .inr (1, [.ref rc, .int (nI rg), .int (nI of), .int (nI rdg), .ref rb, .int (nI (8 * has)), .int (nI (min pl (8 * has)))]))] s.heap.size = A at hD hev hevx ⊢
  have hev1 : ev ep A s s.heap := hev
  obtain ⟨⟨hZR, hTR, hZT, hTT⟩, hNR, hNT, hNC1, hNC2⟩ := hev1
  have hA : ∀ q : Nat, s.heap.size ≤ q → A q := fun q h => by rw [← hAe]; exact Or.inr h
  clear hAe
  have hS : va_S A s.heap s.heap [] := va_S.rf
  have hl := lv_entry ([.ref x]) (n := 1) (Nat.le_of_ble_eq_true rfl)
  rw [lg_entry_eq]
  generalize (lg_sl ([.ref x]) ++ List.replicate (1 - (lg_sl ([.ref x])).length) Slot.unset).toArray = ls at hl ⊢
  have hl : lv_has ls 1 [(0, .ref x)] := hl
  refine lv_aload_n hx hb dX3_checkReading_0 rfl (lv_at hl 0 rfl) ?_
  refine va_get (D := D) (ci := 3) (v := .ref rd) (C := RX3) (T := TX3) (N := 3) hx hb hts iw_x_X3_checkReading_3 hown hK hP 0 rfl rfl 2 (by decide) (hts (.fieldLink RX3 26 "BinStreams" "reader" "LBinStreams$Reader;") (by decide +kernel)) (fun _ h9 => h9) rfl dX3_checkReading_1 ?_
  refine va_get (D := D) (ci := 1) (v := .int (nI rdg)) (C := RX1) (T := TX1) (N := 7) hx hb hts iw_x_X3_checkReading_1 hown hK hP 1 rfl rfl 3 (by decide) (hts (.fieldLink RX3 198 "BinStreams$Reader" "reading" "Z") (by decide +kernel)) (fun _ h9 => h9) rfl dX3_checkReading_4 ?_
  refine wk_if_ne (tgt := 20) hx hb dX3_checkReading_7 (by decide) (by omega) (fun c_7 => absurd c_7 (by omega)) (fun c_7 => ?_)
  exact vx_throwS (own := RX3) (cls := xIS) (text := "nothing is loaded, or the reader reads no more") (names := xUp) (ik := 116) (is := 201) (ic := 120) (sa := ep.2.2 201) hx hb hlt hown (by decide) (by decide) (hts (.classLink RX3 116 xIS) (by decide +kernel)) (hts (.initialized xIS) (by decide +kernel)) (hevx.2.2.1 (201, "nothing is loaded, or the reader reads no more") (by decide)) (xh_IS hevx.2.2.2 (fun w h9 => hts w (xw_x_X3_checkReading_IS w h9))) xg_IS hevx.1 hevx.2.1 hS (by rw [hml]; exact hl.1) dX3_checkReading_10 dX3_checkReading_13 dX3_checkReading_14 dX3_checkReading_16 dX3_checkReading_19 (fun x h9 => (hnoh x h9).elim) (Nat.le_of_ble_eq_true rfl) (Nat.le_of_ble_eq_true rfl) (Nat.le_of_ble_eq_true rfl) (Nat.le_of_ble_eq_true rfl) hlocks (kx_end (C := fun E => E = xIS) hP hK hD hS (rfl)) hS.2.2 (Nat.le_of_ble_eq_true rfl) (Nat.le_of_ble_eq_true rfl)
