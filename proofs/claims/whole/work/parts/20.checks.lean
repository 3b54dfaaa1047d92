set_option maxHeartbeats 4000000 in
set_option maxRecDepth 100000 in
/-- the check passes -/
theorem k_X3_checkContext (l : Launch) (D : va_G) (cI : ClassId) (sz : Nat) (x1 : Int32) (hok : inR x1 32 = true) : Met l yX3_checkContext wsX3_checkContext ({ frames := 0, cells := 0, slots := 0, locals := 0 }) (kP D none [.int x1] [(cI, .int)] [] sz) (va_Qv (fun (u : Unit) => match u with | () => True) (fun u t => match u with | () => kB D [(cI, .int)] (va_A [] sz) [] t) (va_A [] sz)) 0 0 (va_A [] sz) := by
  refine Met.ofW (cc := cX3_checkContext) (maxL := 1) (ret := none) (by decide) rfl ?_
  intro p e s m args below meth c s₁ B hml hv
  obtain ⟨rfl, hsz, hP, hK, hD0, hev⟩ := hv
  have hx := B.exec
  have hb := B.bytes
  have hr := B.returns
  have hts := atoms_spec (ws := wsX3_checkContext) B.pre
  have hown : s.vm.findClass RX3 = some m.cls := findClass_of_methodNamed B.named
  have hlocks := B.notSynchronized
  subst hsz
  have hD := hD0.self (sz := s.heap.size)
  clear hD0
  generalize hAe : va_A [] s.heap.size = A at hD hev ⊢
  have hA : ∀ q : Nat, s.heap.size ≤ q → A q := fun q h => by rw [← hAe]; exact Or.inr h
  clear hAe
  have hS : va_S A s.heap s.heap [] := va_S.rf
  have hl := lv_entry ([.int x1]) (n := 1) (Nat.le_of_ble_eq_true rfl)
  rw [lg_entry_eq]
  generalize (lg_sl ([.int x1]) ++ List.replicate (1 - (lg_sl ([.int x1])).length) Slot.unset).toArray = ls at hl ⊢
  have hl : lv_has ls 1 [(0, .int x1)] := hl
  refine lv_iload_n hx hb dX3_checkContext_0 rfl (lv_at hl 0 rfl) ?_
  refine lv_if_lt (tgt := 10) hx hb dX3_checkContext_1 (by decide)  (fun c_1 => absurd c_1 (by exact inR_pos hok)) (fun c_1 => ?_)
  refine lv_iload_n hx hb dX3_checkContext_4 rfl (lv_at hl 0 rfl) ?_
  refine lv_bipush (v := nI 32) hx hb dX3_checkContext_5 (by decide) ?_
  refine lv_icmp_lt (tgt := 20) hx hb dX3_checkContext_7 (by decide)  (fun c_7 => ?_) (fun c_7 => absurd c_7 (by exact fun z => z (inR_lt hok (by decide))))
  exact W.vret hx hb hr (fun t ht hW => ⟨⟨(), rfl, trivial, by rw [ht]; exact hP, va_K.moved hW.alike hK, hD⟩, hS.F ht⟩) hS.2.2 dX3_checkContext_20

theorem xw_x_X3_checkContext_IO : ∀ w ∈ (vx_atS RX3 175 xIO xUp).filter goodWord, w ∈ wsX3_checkContext := by decide +kernel
set_option maxHeartbeats 4000000 in
set_option maxRecDepth 100000 in
/-- the check throws -/
theorem x_X3_checkContext (l : Launch) (hlt : l.stackTraces = false) (D : va_G) (cI : ClassId) (ep : EP) (sz : Nat) (x1 : Int32) (hno : ¬ inR x1 32 = true) : vx_Met l yX3_checkContext wsX3_checkContext ({ frames := 6, cells := 1, slots := 6, locals := 82 }) (kPx D ep [.int x1] [(cI, .int)] [] sz) (va_Qv (fun (u : Unit) => match u with | () => False) (fun u t => match u with | () => kB D [(cI, .int)] (va_A [] sz) [] t) (va_A [] sz)) (vx_X (fun (_ : Unit) => True) (fun (E : String) (_ : Unit) t => E = xIO ∧ kB D [(cI, .int)] (va_A [] sz) [] t) (va_A [] sz)) 1 6 (va_A [] sz) := by
  refine vx_ofW (cc := cX3_checkContext) (maxL := 1) (ret := none) (by decide) rfl ?_
  intro p e s m args below meth c s₁ B hml hnoh hv
  obtain ⟨rfl, hsz, hP, hK, hD0, hev, hevx⟩ := hv
  have hx := B.exec
  have hb := B.bytes
  have hr := B.returns
  have hts := atoms_spec (ws := wsX3_checkContext) B.pre
  have hown : s.vm.findClass RX3 = some m.cls := findClass_of_methodNamed B.named
  have hlocks := B.notSynchronized
  subst hsz
  have hD := hD0.self (sz := s.heap.size)
  clear hD0
  generalize hAe : va_A [] s.heap.size = A at hD hev hevx ⊢
  have hev1 : ev ep A s s.heap := hev
  obtain ⟨⟨hZR, hTR, hZT, hTT⟩, hNR, hNT, hNC1, hNC2⟩ := hev1
  have hA : ∀ q : Nat, s.heap.size ≤ q → A q := fun q h => by rw [← hAe]; exact Or.inr h
  clear hAe
  have hS : va_S A s.heap s.heap [] := va_S.rf
  have hl := lv_entry ([.int x1]) (n := 1) (Nat.le_of_ble_eq_true rfl)
  rw [lg_entry_eq]
  generalize (lg_sl ([.int x1]) ++ List.replicate (1 - (lg_sl ([.int x1])).length) Slot.unset).toArray = ls at hl ⊢
  have hl : lv_has ls 1 [(0, .int x1)] := hl
  refine lv_iload_n hx hb dX3_checkContext_0 rfl (lv_at hl 0 rfl) ?_
  refine lv_if_lt (tgt := 10) hx hb dX3_checkContext_1 (by decide)  (fun c_1 => ?_) (fun c_1 => ?_)
  · exact vx_throwS (own := RX3) (cls := xIO) (text := "no such context") (names := xUp) (ik := 171) (is := 173) (ic := 175) (sa := ep.2.2 173) hx hb hlt hown (by decide) (by decide) (hts (.classLink RX3 171 xIO) (by decide +kernel)) (hts (.initialized xIO) (by decide +kernel)) (hevx.2.2.1 (173, "no such context") (by decide)) (xh_IO hevx.2.2.2 (fun w h9 => hts w (xw_x_X3_checkContext_IO w h9))) xg_IO hevx.1 hevx.2.1 hS (by rw [hml]; exact hl.1) dX3_checkContext_10 dX3_checkContext_13 dX3_checkContext_14 dX3_checkContext_16 dX3_checkContext_19 (fun x h9 => (hnoh x h9).elim) (Nat.le_of_ble_eq_true rfl) (Nat.le_of_ble_eq_true rfl) (Nat.le_of_ble_eq_true rfl) (Nat.le_of_ble_eq_true rfl) hlocks (kx_end (C := fun E => E = xIO) hP hK hD hS (rfl)) hS.2.2 (Nat.le_of_ble_eq_true rfl) (Nat.le_of_ble_eq_true rfl)
  · refine lv_iload_n hx hb dX3_checkContext_4 rfl (lv_at hl 0 rfl) ?_
    refine lv_bipush (v := nI 32) hx hb dX3_checkContext_5 (by decide) ?_
    refine lv_icmp_lt (tgt := 20) hx hb dX3_checkContext_7 (by decide)  (fun c_7 => absurd c_7 (by exact fun z => hno (inR_of c_1 z (by decide)))) (fun c_7 => ?_)
    exact vx_throwS (own := RX3) (cls := xIO) (text := "no such context") (names := xUp) (ik := 171) (is := 173) (ic := 175) (sa := ep.2.2 173) hx hb hlt hown (by decide) (by decide) (hts (.classLink RX3 171 xIO) (by decide +kernel)) (hts (.initialized xIO) (by decide +kernel)) (hevx.2.2.1 (173, "no such context") (by decide)) (xh_IO hevx.2.2.2 (fun w h9 => hts w (xw_x_X3_checkContext_IO w h9))) xg_IO hevx.1 hevx.2.1 hS (by rw [hml]; exact hl.1) dX3_checkContext_10 dX3_checkContext_13 dX3_checkContext_14 dX3_checkContext_16 dX3_checkContext_19 (fun x h9 => (hnoh x h9).elim) (Nat.le_of_ble_eq_true rfl) (Nat.le_of_ble_eq_true rfl) (Nat.le_of_ble_eq_true rfl) (Nat.le_of_ble_eq_true rfl) hlocks (kx_end (C := fun E => E = xIO) hP hK hD hS (rfl)) hS.2.2 (Nat.le_of_ble_eq_true rfl) (Nat.le_of_ble_eq_true rfl)

set_option maxHeartbeats 4000000 in
set_option maxRecDepth 100000 in
/-- the check passes -/
theorem k_X3_checkFirstContext (l : Launch) (D : va_G) (cI : ClassId) (sz : Nat) (x1 : Int32) (hok : inR x1 29 = true) : Met l yX3_checkFirstContext wsX3_checkFirstContext ({ frames := 0, cells := 0, slots := 0, locals := 0 }) (kP D none [.int x1] [(cI, .int)] [] sz) (va_Qv (fun (u : Unit) => match u with | () => True) (fun u t => match u with | () => kB D [(cI, .int)] (va_A [] sz) [] t) (va_A [] sz)) 0 0 (va_A [] sz) := by
  refine Met.ofW (cc := cX3_checkFirstContext) (maxL := 1) (ret := none) (by decide) rfl ?_
  intro p e s m args below meth c s₁ B hml hv
  obtain ⟨rfl, hsz, hP, hK, hD0, hev⟩ := hv
  have hx := B.exec
  have hb := B.bytes
  have hr := B.returns
  have hts := atoms_spec (ws := wsX3_checkFirstContext) B.pre
  have hown : s.vm.findClass RX3 = some m.cls := findClass_of_methodNamed B.named
  have hlocks := B.notSynchronized
  subst hsz
  have hD := hD0.self (sz := s.heap.size)
  clear hD0
  generalize hAe : va_A [] s.heap.size = A at hD hev ⊢
  have hA : ∀ q : Nat, s.heap.size ≤ q → A q := fun q h => by rw [← hAe]; exact Or.inr h
  clear hAe
  have hS : va_S A s.heap s.heap [] := va_S.rf
  have hl := lv_entry ([.int x1]) (n := 1) (Nat.le_of_ble_eq_true rfl)
  rw [lg_entry_eq]
  generalize (lg_sl ([.int x1]) ++ List.replicate (1 - (lg_sl ([.int x1])).length) Slot.unset).toArray = ls at hl ⊢
  have hl : lv_has ls 1 [(0, .int x1)] := hl
  refine lv_iload_n hx hb dX3_checkFirstContext_0 rfl (lv_at hl 0 rfl) ?_
  refine lv_if_lt (tgt := 10) hx hb dX3_checkFirstContext_1 (by decide)  (fun c_1 => absurd c_1 (by exact inR_pos hok)) (fun c_1 => ?_)
  refine lv_iload_n hx hb dX3_checkFirstContext_4 rfl (lv_at hl 0 rfl) ?_
  refine lv_bipush (v := nI 29) hx hb dX3_checkFirstContext_5 (by decide) ?_
  refine lv_icmp_lt (tgt := 20) hx hb dX3_checkFirstContext_7 (by decide)  (fun c_7 => ?_) (fun c_7 => absurd c_7 (by exact fun z => z (inR_lt hok (by decide))))
  exact W.vret hx hb hr (fun t ht hW => ⟨⟨(), rfl, trivial, by rw [ht]; exact hP, va_K.moved hW.alike hK, hD⟩, hS.F ht⟩) hS.2.2 dX3_checkFirstContext_20

theorem xw_x_X3_checkFirstContext_IO : ∀ w ∈ (vx_atS RX3 175 xIO xUp).filter goodWord, w ∈ wsX3_checkFirstContext := by decide +kernel
set_option maxHeartbeats 4000000 in
set_option maxRecDepth 100000 in
/-- the check throws -/
theorem x_X3_checkFirstContext (l : Launch) (hlt : l.stackTraces = false) (D : va_G) (cI : ClassId) (ep : EP) (sz : Nat) (x1 : Int32) (hno : ¬ inR x1 29 = true) : vx_Met l yX3_checkFirstContext wsX3_checkFirstContext ({ frames := 6, cells := 1, slots := 6, locals := 82 }) (kPx D ep [.int x1] [(cI, .int)] [] sz) (va_Qv (fun (u : Unit) => match u with | () => False) (fun u t => match u with | () => kB D [(cI, .int)] (va_A [] sz) [] t) (va_A [] sz)) (vx_X (fun (_ : Unit) => True) (fun (E : String) (_ : Unit) t => E = xIO ∧ kB D [(cI, .int)] (va_A [] sz) [] t) (va_A [] sz)) 1 6 (va_A [] sz) := by
  refine vx_ofW (cc := cX3_checkFirstContext) (maxL := 1) (ret := none) (by decide) rfl ?_
  intro p e s m args below meth c s₁ B hml hnoh hv
  obtain ⟨rfl, hsz, hP, hK, hD0, hev, hevx⟩ := hv
  have hx := B.exec
  have hb := B.bytes
  have hr := B.returns
  have hts := atoms_spec (ws := wsX3_checkFirstContext) B.pre
  have hown : s.vm.findClass RX3 = some m.cls := findClass_of_methodNamed B.named
  have hlocks := B.notSynchronized
  subst hsz
  have hD := hD0.self (sz := s.heap.size)
  clear hD0
  generalize hAe : va_A [] s.heap.size = A at hD hev hevx ⊢
  have hev1 : ev ep A s s.heap := hev
  obtain ⟨⟨hZR, hTR, hZT, hTT⟩, hNR, hNT, hNC1, hNC2⟩ := hev1
  have hA : ∀ q : Nat, s.heap.size ≤ q → A q := fun q h => by rw [← hAe]; exact Or.inr h
  clear hAe
  have hS : va_S A s.heap s.heap [] := va_S.rf
  have hl := lv_entry ([.int x1]) (n := 1) (Nat.le_of_ble_eq_true rfl)
  rw [lg_entry_eq]
  generalize (lg_sl ([.int x1]) ++ List.replicate (1 - (lg_sl ([.int x1])).length) Slot.unset).toArray = ls at hl ⊢
  have hl : lv_has ls 1 [(0, .int x1)] := hl
  refine lv_iload_n hx hb dX3_checkFirstContext_0 rfl (lv_at hl 0 rfl) ?_
  refine lv_if_lt (tgt := 10) hx hb dX3_checkFirstContext_1 (by decide)  (fun c_1 => ?_) (fun c_1 => ?_)
  · exact vx_throwS (own := RX3) (cls := xIO) (text := "no such contexts for a count") (names := xUp) (ik := 171) (is := 176) (ic := 175) (sa := ep.2.2 176) hx hb hlt hown (by decide) (by decide) (hts (.classLink RX3 171 xIO) (by decide +kernel)) (hts (.initialized xIO) (by decide +kernel)) (hevx.2.2.1 (176, "no such contexts for a count") (by decide)) (xh_IO hevx.2.2.2 (fun w h9 => hts w (xw_x_X3_checkFirstContext_IO w h9))) xg_IO hevx.1 hevx.2.1 hS (by rw [hml]; exact hl.1) dX3_checkFirstContext_10 dX3_checkFirstContext_13 dX3_checkFirstContext_14 dX3_checkFirstContext_16 dX3_checkFirstContext_19 (fun x h9 => (hnoh x h9).elim) (Nat.le_of_ble_eq_true rfl) (Nat.le_of_ble_eq_true rfl) (Nat.le_of_ble_eq_true rfl) (Nat.le_of_ble_eq_true rfl) hlocks (kx_end (C := fun E => E = xIO) hP hK hD hS (rfl)) hS.2.2 (Nat.le_of_ble_eq_true rfl) (Nat.le_of_ble_eq_true rfl)
  · refine lv_iload_n hx hb dX3_checkFirstContext_4 rfl (lv_at hl 0 rfl) ?_
    refine lv_bipush (v := nI 29) hx hb dX3_checkFirstContext_5 (by decide) ?_
    refine lv_icmp_lt (tgt := 20) hx hb dX3_checkFirstContext_7 (by decide)  (fun c_7 => absurd c_7 (by exact fun z => hno (inR_of c_1 z (by decide)))) (fun c_7 => ?_)
    exact vx_throwS (own := RX3) (cls := xIO) (text := "no such contexts for a count") (names := xUp) (ik := 171) (is := 176) (ic := 175) (sa := ep.2.2 176) hx hb hlt hown (by decide) (by decide) (hts (.classLink RX3 171 xIO) (by decide +kernel)) (hts (.initialized xIO) (by decide +kernel)) (hevx.2.2.1 (176, "no such contexts for a count") (by decide)) (xh_IO hevx.2.2.2 (fun w h9 => hts w (xw_x_X3_checkFirstContext_IO w h9))) xg_IO hevx.1 hevx.2.1 hS (by rw [hml]; exact hl.1) dX3_checkFirstContext_10 dX3_checkFirstContext_13 dX3_checkFirstContext_14 dX3_checkFirstContext_16 dX3_checkFirstContext_19 (fun x h9 => (hnoh x h9).elim) (Nat.le_of_ble_eq_true rfl) (Nat.le_of_ble_eq_true rfl) (Nat.le_of_ble_eq_true rfl) (Nat.le_of_ble_eq_true rfl) hlocks (kx_end (C := fun E => E = xIO) hP hK hD hS (rfl)) hS.2.2 (Nat.le_of_ble_eq_true rfl) (Nat.le_of_ble_eq_true rfl)
