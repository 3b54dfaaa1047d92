theorem iw_k_X0_init_0 : ∀ w ∈ u_ws RX0 TX0 2, w ∈ wsX0_init := by decide +kernel
set_option maxHeartbeats 1000000 in
set_option maxRecDepth 100000 in
theorem k_X0_init (l : Launch) (D : va_G) (cI : ClassId) (cc : Nat) (sz : Nat) : Met l yX0_init wsX0_init ({ frames := 1, cells := 2, slots := 64, locals := 12 }) (kPn D [.ref cc] [(cI, .int)] [(cc, .inr (0, [.null, .null]))] sz) (va_Qv (fun (u : Nat × Nat) => match u with | (cs1, cl1) => True) (fun u t => match u with | (cs1, cl1) => kB D [(cI, .int)] (va_A [(cc, .inr (0, [.null, .null]))] sz) [(cc, .inr (0, [.ref cs1, .ref cl1])), (cs1, .inl (cI, 32, .inl (ai (fun _ => 0)))), (cl1, .inl (cI, 32, .inl (ai (fun _ => 0))))] t) (va_A [(cc, .inr (0, [.null, .null]))] sz)) 2 64 (va_A [(cc, .inr (0, [.null, .null]))] sz) := by
  refine Met.ofW (cc := cX0_init) (maxL := 1) (ret := none) (by decide) rfl ?_
  intro p e s m args below meth c s₁ B hml hv
  obtain ⟨rfl, hsz, hP, hK, hD0, hev⟩ := hv
  have hx := B.exec
  have hb := B.bytes
  have hr := B.returns
  have hts := atoms_spec (ws := wsX0_init) B.pre
  have hown : s.vm.findClass RX0 = some m.cls := findClass_of_methodNamed B.named
  have hlocks := B.notSynchronized
  have hin : meth.name = "<init>" := (name_of_methodNamed B.named B.method).1
  subst hsz
  have hD := hD0.self (sz := s.heap.size)
  clear hD0
  generalize hAe : va_A [(cc, .inr (0, [.null, .null]))] s.heap.size = A at hD ⊢
  obtain ⟨hN9, hN18, hN25, hN1, hN2⟩ := id hev
  have hA : ∀ q : Nat, s.heap.size ≤ q → A q := fun q h => by rw [← hAe]; exact Or.inr h
  clear hAe
  have hS : va_S A s.heap s.heap [] := va_S.rf
  have hl := lv_entry ([.ref cc]) (n := 1) (Nat.le_of_ble_eq_true rfl)
  rw [lg_entry_eq]
  generalize (lg_sl ([.ref cc]) ++ List.replicate (1 - (lg_sl ([.ref cc])).length) Slot.unset).toArray = ls at hl ⊢
  have hl : lv_has ls 1 [(0, .ref cc)] := hl
  refine lv_aload_n hx hb dX0_init_0 rfl (lv_at hl 0 rfl) ?_
  refine W.objInit hx hb hown (hts (.methodLink RX0 3 objectInit) (by decide +kernel)) (hts (.instanceMethod objectInit) (by decide +kernel)) (hts (.code objectInit ⟨#[0xb1]⟩ 1 none) (by decide +kernel)) rfl (by rw [hml]; exact hl.1) rfl dX0_init_1 (Nat.le_of_ble_eq_true rfl) (Nat.le_of_ble_eq_true rfl) ?_
  refine W.eq (g2 := F0 m 4 ls []) rfl ?_
  refine lv_aload_n hx hb dX0_init_4 rfl (lv_at hl 0 rfl) ?_
  refine lv_bipush (v := nI 32) hx hb dX0_init_5 (by decide) ?_
  refine va_newa (atype := .int) (ty := .int) (N' := 32) (a0 := (32, .inl (ai (fun _ => 0)))) hx hb (hts (.arrayClass .int) (by decide +kernel)) rfl hK hP hD hS hA (ai_new 32) (nI_pos (by decide)) (nI_clamp (by decide)) (by decide) (Nat.le_of_ble_eq_true rfl) (Nat.le_of_ble_eq_true rfl) dX0_init_7 (fun q_7 cA H hK2 hP hD hS => ?_)
  rw [cI_eq hK2 0 1 rfl rfl] at hP hD
  clear hK2
  have hP : va_P D vwCl [(cc, .inr (0, [.null, .null])), (q_7, .inl (cI, 32, .inl (ai (fun _ => 0))))] H := hP
  have hD : va_D A [(cc, .inr (0, [.null, .null])), (q_7, .inl (cI, 32, .inl (ai (fun _ => 0))))] := hD
  refine W.widen (k := 1) (n := 32) (Nat.le_of_ble_eq_true rfl) (Nat.le_of_ble_eq_true rfl) ?_
  refine va_putF (D := D) (ci := 0) (v := .ref q_7) (ty := (.array .int)) (C := RX0) (T := TX0) (N := 2) hx hb hts iw_k_X0_init_0 tyX0 tyX0_ok nmX0 hown hK hP hD hS 0 rfl rfl 0 (by decide) (hts (.fieldLink RX0 9 "BinStreams$Contexts" "states" "[I") (by decide +kernel)) (fun _ h9 => h9) rfl hin rfl (by decide +kernel) rfl rfl (Nat.le_of_ble_eq_true rfl) dX0_init_9 (fun H locs hP hD hS => ?_)
  have hP : va_P D vwCl [(cc, .inr (0, [.ref q_7, .null])), (q_7, .inl (cI, 32, .inl (ai (fun _ => 0))))] H := hP
  have hD : va_D A [(cc, .inr (0, [.ref q_7, .null])), (q_7, .inl (cI, 32, .inl (ai (fun _ => 0))))] := hD
  refine lv_aload_n hx hb dX0_init_12 rfl (lv_at hl 0 rfl) ?_
  refine lv_bipush (v := nI 32) hx hb dX0_init_13 (by decide) ?_
  refine va_newa (atype := .int) (ty := .int) (N' := 32) (a0 := (32, .inl (ai (fun _ => 0)))) hx hb (hts (.arrayClass .int) (by decide +kernel)) rfl hK hP hD hS hA (ai_new 32) (nI_pos (by decide)) (nI_clamp (by decide)) (by decide) (Nat.le_of_ble_eq_true rfl) (Nat.le_of_ble_eq_true rfl) dX0_init_15 (fun q_15 cA H hK2 hP hD hS => ?_)
  rw [cI_eq hK2 0 1 rfl rfl] at hP hD
  clear hK2
  have hP : va_P D vwCl [(cc, .inr (0, [.ref q_7, .null])), (q_7, .inl (cI, 32, .inl (ai (fun _ => 0)))), (q_15, .inl (cI, 32, .inl (ai (fun _ => 0))))] H := hP
  have hD : va_D A [(cc, .inr (0, [.ref q_7, .null])), (q_7, .inl (cI, 32, .inl (ai (fun _ => 0)))), (q_15, .inl (cI, 32, .inl (ai (fun _ => 0))))] := hD
  refine W.widen (k := 2) (n := 64) (Nat.le_of_ble_eq_true rfl) (Nat.le_of_ble_eq_true rfl) ?_
  refine va_putF (D := D) (ci := 0) (v := .ref q_15) (ty := (.array .int)) (C := RX0) (T := TX0) (N := 2) hx hb hts iw_k_X0_init_0 tyX0 tyX0_ok nmX0 hown hK hP hD hS 0 rfl rfl 1 (by decide) (hts (.fieldLink RX0 15 "BinStreams$Contexts" "likely" "[I") (by decide +kernel)) (fun _ h9 => h9) rfl hin rfl (by decide +kernel) rfl rfl (Nat.le_of_ble_eq_true rfl) dX0_init_17 (fun H locs hP hD hS => ?_)
  have hP : va_P D vwCl [(cc, .inr (0, [.ref q_7, .ref q_15])), (q_7, .inl (cI, 32, .inl (ai (fun _ => 0)))), (q_15, .inl (cI, 32, .inl (ai (fun _ => 0))))] H := hP
  have hD : va_D A [(cc, .inr (0, [.ref q_7, .ref q_15])), (q_7, .inl (cI, 32, .inl (ai (fun _ => 0)))), (q_15, .inl (cI, 32, .inl (ai (fun _ => 0))))] := hD
  exact W.vret hx hb hr (fun t ht hW => ⟨⟨(q_7, q_15), rfl, trivial, by rw [ht]; exact hP, va_K.moved hW.alike hK, hD⟩, hS.F ht⟩) hS.2.2 dX0_init_20
