theorem iw_k_X0_init_0 : ∀ w ∈ u_ws RX0 TX0 2, w ∈ wsX0_init := by decide +kernel
set_option maxHeartbeats 1000000 in
set_option maxRecDepth 100000 in
theorem k_X0_init (l : Launch) (D : va_G) (cI : ClassId) (cc : Nat) (sz : Nat) : Met l yX0_init wsX0_init ({ frames := 1, cells := 2, slots := 64, locals := 12 }) (kPn D [.ref cc] [(cI, .int)] [(cc, .inr (0, [.null, .null]))] sz) (va_Qv (fun (u : Nat × Nat) => match u with | (cs1, cl1) => True) (fun u t => match u with | (cs1, cl1) => kB D [(cI, .int)] (va_A [(cc, .inr (0, [.null, .null]))] sz) [(cc, .inr (0, [.ref cs1, .ref cl1])), (cs1, .inl (cI, 32, .inl (ai (fun _ => 0)))), (cl1, .inl (cI, 32, .inl (ai (fun _ => 0))))] t) (va_A [(cc, .inr (0, [.null, .null]))] sz)) 2 64 (va_A [(cc, .inr (0, [.null, .null]))] sz) := by
  refine Met.ofW (cc := cX0_init) (maxL := 1) (ret := none) (by decide) rfl ?_
  intro p e s m args below meth c s₁ B hml hv
  obtain ⟨rfl, hsz, hP, hK, hD0, hev⟩ := hv
  have hx := B.exec
  have hb := B.bytes
  have hr := B.returns
  have hts := atoms_spec (ws := wsX0_init) B.pre
  have hown : s.vm.findClass RX0 = some m.cls := findClass_of_methodNamed B.named
  have hlocks := B.notSynchronized
  have hin : meth.name = "<init>" := (name_of_methodNamed B.named B.method).1
  subst hsz
  have hD := hD0.self (sz := s.heap.size)
  clear hD0
  generalize hAe : va_A [(cc, .inr (0, [.null, .null]))] s.heap.size = A at hD ⊢
  obtain ⟨hN9, hN18, hN25, hN1, hN2⟩ := id hev
  have hA : ∀ q : Nat, s.heap.size ≤ q → A q := fun q h => by rw [← hAe]; exact Or.inr h
  clear hAe
  have hS : va_S A s.heap s.heap [] := va_S.rf
  have hl := lv_entry ([.ref cc]) (n := 1) (Nat.le_of_ble_eq_true rfl)
  rw [lg_entry_eq]
  generalize (lg_sl ([.ref cc]) ++ List.replicate (1 - (lg_sl ([.ref cc])).length) Slot.unset).toArray = ls at hl ⊢
  have hl : lv_has ls 1 [(0, .ref cc)] := hl
  refine lv_aload_n hx hb dX0_init_0 rfl (lv_at hl 0 rfl) ?_
  refine W.objInit hx hb hown (hts (.methodLink RX0 3 objectInit) (by decide +kernel)) (hts (.instanceMethod objectInit) (by decide +kernel)) (hts (.code objectInit ⟨#[0xb1]⟩ 1 none) (by decide +kernel)) rfl (by rw [hml]; exact hl.1) rfl dX0_init_1 (Nat.le_of_ble_eq_true rfl) (Nat.le_of_ble_eq_true rfl) ?_
  refine W.eq (g2 := F0 m 4 ls []) rfl ?_
  refine lv_aload_n hx hb dX0_init_4 rfl (lv_at hl 0 rfl) ?_
  refine lv_bipush (v := nI 32) hx hb dX0_init_5 (by decide) ?_
  refine va_newa (atype := .int) (ty := .int) (N' := 32) (a0 := (32, .inl (ai (fun _ => 0)))) hx hb (hts (.arrayClass .int) (by decide +kernel)) rfl hK hP hD hS hA (ai_new 32) (nI_pos (by decide)) (nI_clamp (by decide)) (by decide) (Nat.le_of_ble_eq_true rfl) (Nat.le_of_ble_eq_true rfl) dX0_init_7 (fun q_7 cA H hK2 hP hD hS => ?_)
  rw [cI_eq hK2 0 1 rfl rfl] at hP hD
  clear hK2
  have hP : va_P D vwCl [(cc, .inr (0, [.null, .null])), (q_7, .inl (cI, 32, .inl (ai (fun _ => 0))))] H := hP
  have hD : va_D A [(cc, .inr (0, [.null, .null])), (q_7, .inl (cI, 32, .inl (ai (fun _ => 0))))] := hD
  refine W.widen (k := 1) (n := 32) (Nat.le_of_ble_eq_true rfl) (Nat.le_of_ble_eq_true rfl) ?_
  refine va_putF (D := D) (ci := 0) (v := .ref q_7) (ty := (.array .int)) (C := RX0) (T := TX0) (N := 2) hx hb hts iw_k_X0_init_0 tyX0 tyX0_ok nmX0 hown hK hP hD hS 0 rfl rfl 0 (by decide) (hts (.fieldLink RX0 9 "BinStreams$Contexts" "states" "[I") (by decide +kernel)) (fun _ h9 => h9) rfl hin rfl (by decide +kernel) rfl rfl (Nat.le_of_ble_eq_true rfl) dX0_init_9 (fun H locs hP hD hS => ?_)
  have hP : va_P D vwCl [(cc, .inr (0, [.ref q_7, .null])), (q_7, .inl (cI, 32, .inl (ai (fun _ => 0))))] H := hP
  have hD : va_D A [(cc, .inr (0, [.ref q_7, .null])), (q_7, .inl (cI, 32, .inl (ai (fun _ => 0))))] := hD
  refine lv_aload_n hx hb dX0_init_12 rfl (lv_at hl 0 rfl) ?_
  refine lv_bipush (v := nI 32) hx hb dX0_init_13 (by decide) ?_
  refine va_newa (atype := .int) (ty := .int) (N' := 32) (a0 := (32, .inl (ai (fun _ => 0)))) hx hb (hts (.arrayClass .int) (by decide +kernel)) rfl hK hP hD hS hA (ai_new 32) (nI_pos (by decide)) (nI_clamp (by decide)) (by decide) (Nat.le_of_ble_eq_true rfl) (Nat.le_of_ble_eq_true rfl) dX0_init_15 (fun q_15 cA H hK2 hP hD hS => ?_)
  rw [cI_eq hK2 0 1 rfl rfl] at hP hD
  clear hK2
  have hP : va_P D vwCl [(cc, .inr (0, [.ref q_7, .null])), (q_7, .inl (cI, 32, .inl (ai (fun _ => 0)))), (q_15, .inl (cI, 32, .inl (ai (fun _ => 0))))] H := hP
  have hD : va_D A [(cc, .inr (0, [.ref q_7, .null])), (q_7, .inl (cI, 32, .inl (ai (fun _ => 0)))), (q_15, .inl (cI, 32, .inl (ai (fun _ => 0))))] := hD
  refine W.widen (k := 2) (n := 64) (Nat.le_of_ble_eq_true rfl) (Nat.le_of_ble_eq_true rfl) ?_
  refine va_putF (D := D) (ci := 0) (v := .ref q_15) (ty := (.array .int)) (C := RX0) (T := TX0) (N := 2) hx hb hts iw_k_X0_init_0 tyX0 tyX0_ok nmX0 hown hK hP hD hS 0 rfl rfl 1 (by decide) (hts (.fieldLink RX0 15 "BinStreams$Contexts" "likely" "[I") (by decide +kernel)) (fun _ h9 => h9) rfl hin rfl (by decide +kernel) rfl rfl (Nat.le_of_ble_eq_true rfl) dX0_init_17 (fun H locs hP hD hS => ?_)
  have hP : va_P D vwCl [(cc, .inr (0, [.ref q_7, .ref q_15])), (q_7, .inl (cI, 32, .inl (ai (fun _ => 0)))), (q_15, .inl (cI, 32, .inl (ai (fun _ => 0))))] H := hP
  have hD : va_D A [(cc, .inr (0, [.ref q_7, .ref q_15])), (q_7, .inl (cI, 32, .inl (ai (fun _ => 0)))), (q_15, .inl (cI, 32, .inl (ai (fun _ => 0))))] := hD
  exact W.vret hx hb hr (fun t ht hW => ⟨⟨(q_7, q_15), rfl, trivial, by rw [ht]; exact hP, va_K.moved hW.alike hK, hD⟩, hS.F ht⟩) hS.2.2 dX0_init_20

theorem iw_k_X2_init_0 : ∀ w ∈ u_ws RX0 TX0 2, w ∈ wsX2_init := by decide +kernel
theorem iw_k_X2_init_2 : ∀ w ∈ u_ws RX2 TX2 11, w ∈ wsX2_init := by decide +kernel
set_option maxHeartbeats 1000000 in
set_option maxRecDepth 100000 in
theorem k_X2_init (l : Launch) (D : va_G) (cI : ClassId) (wr : Nat) (sz : Nat) : Met l yX2_init wsX2_init ({ frames := 2, cells := 4, slots := 368, locals := 32 }) (kPn D [.ref wr] [(cI, .int)] [(wr, .inr (2, [.null, .null, .int (nI 0), .int (nI 0), .int (nI 0), .int (nI 0), .int (nI 0), .int (nI 0), .int (nI 0), .int (nI 0), .int (nI 0)]))] sz) (va_Qv (fun (u : Nat × Nat × Nat × Nat) => match u with | (wc, cs, cl, wb) => True) (fun u t => match u with | (wc, cs, cl, wb) => kB D [(cI, .int)] (va_A [(wr, .inr (2, [.null, .null, .int (nI 0), .int (nI 0), .int (nI 0), .int (nI 0), .int (nI 0), .int (nI 0), .int (nI 0), .int (nI 0), .int (nI 0)]))] sz) [(wr, .inr (2, [.ref wc, .ref wb, .int (nI 0), .int (nI 0), .int (nI 0), .int (nI 0), .int (nI 0), .int (nI 0), .int (nI 0), .int (nI 0), .int (nI 0)])), (wc, .inr (0, [.ref cs, .ref cl])), (cs, .inl (cI, 32, .inl (ai (fun _ => 0)))), (cl, .inl (cI, 32, .inl (ai (fun _ => 0)))), (wb, .inl (cI, 302, .inl (ai (fun _ => 0))))] t) (va_A [(wr, .inr (2, [.null, .null, .int (nI 0), .int (nI 0), .int (nI 0), .int (nI 0), .int (nI 0), .int (nI 0), .int (nI 0), .int (nI 0), .int (nI 0)]))] sz)) 4 368 (va_A [(wr, .inr (2, [.null, .null, .int (nI 0), .int (nI 0), .int (nI 0), .int (nI 0), .int (nI 0), .int (nI 0), .int (nI 0), .int (nI 0), .int (nI 0)]))] sz) := by
  refine Met.ofW (cc := cX2_init) (maxL := 1) (ret := none) (by decide) rfl ?_
  intro p e s m args below meth c s₁ B hml hv
  obtain ⟨rfl, hsz, hP, hK, hD0, hev⟩ := hv
  have hx := B.exec
  have hb := B.bytes
  have hr := B.returns
  have hts := atoms_spec (ws := wsX2_init) B.pre
  have hown : s.vm.findClass RX2 = some m.cls := findClass_of_methodNamed B.named
  have hlocks := B.notSynchronized
  have hin : meth.name = "<init>" := (name_of_methodNamed B.named B.method).1
  subst hsz
  have hD := hD0.self (sz := s.heap.size)
  clear hD0
  generalize hAe : va_A [(wr, .inr (2, [.null, .null, .int (nI 0), .int (nI 0), .int (nI 0), .int (nI 0), .int (nI 0), .int (nI 0), .int (nI 0), .int (nI 0), .int (nI 0)]))] s.heap.size = A at hD ⊢
  obtain ⟨hN9, hN18, hN25, hN1, hN2⟩ := id hev
  have hA : ∀ q : Nat, s.heap.size ≤ q → A q := fun q h => by rw [← hAe]; exact Or.inr h
  clear hAe
  have hS : va_S A s.heap s.heap [] := va_S.rf
  have hl := lv_entry ([.ref wr]) (n := 1) (Nat.le_of_ble_eq_true rfl)
  rw [lg_entry_eq]
  generalize (lg_sl ([.ref wr]) ++ List.replicate (1 - (lg_sl ([.ref wr])).length) Slot.unset).toArray = ls at hl ⊢
  have hl : lv_has ls 1 [(0, .ref wr)] := hl
  refine lv_aload_n hx hb dX2_init_0 rfl (lv_at hl 0 rfl) ?_
  refine W.objInit hx hb hown (hts (.methodLink RX2 3 objectInit) (by decide +kernel)) (hts (.instanceMethod objectInit) (by decide +kernel)) (hts (.code objectInit ⟨#[0xb1]⟩ 1 none) (by decide +kernel)) rfl (by rw [hml]; exact hl.1) rfl dX2_init_1 (Nat.le_of_ble_eq_true rfl) (Nat.le_of_ble_eq_true rfl) ?_
  refine W.eq (g2 := F0 m 4 ls []) rfl ?_
  refine lv_aload_n hx hb dX2_init_4 rfl (lv_at hl 0 rfl) ?_
  refine va_new (ci := 0) (fs := [.null, .null]) (C := RX0) (T := TX0) (N := 2) hx hb hts iw_k_X2_init_0 tyX0 tyX0_ok hown (hts (.classLink RX2 9 RX0) (by decide +kernel)) (hts (.instantiable RX0 2) (by decide +kernel)) (hts (.initialized RX0) (by decide +kernel)) hK hP hD hS hA rfl (fun j hj => by rcases (show j = 0 ∨ j = 1 by omega) with rfl | rfl <;> rfl) (Nat.le_of_ble_eq_true rfl) (Nat.le_of_ble_eq_true rfl) dX2_init_5 (fun q_5 H hP hD hS => ?_)
  have hP : va_P D vwCl [(wr, .inr (2, [.null, .null, .int (nI 0), .int (nI 0), .int (nI 0), .int (nI 0), .int (nI 0), .int (nI 0), .int (nI 0), .int (nI 0), .int (nI 0)])), (q_5, .inr (0, [.null, .null]))] H := hP
  have hD : va_D A [(wr, .inr (2, [.null, .null, .int (nI 0), .int (nI 0), .int (nI 0), .int (nI 0), .int (nI 0), .int (nI 0), .int (nI 0), .int (nI 0), .int (nI 0)])), (q_5, .inr (0, [.null, .null]))] := hD
  refine W.widen (k := 1) (n := 2) (Nat.le_of_ble_eq_true rfl) (Nat.le_of_ble_eq_true rfl) ?_
  refine lv_dup hx hb dX2_init_8 rfl ?_
  have hPc := hP.sub (ws' := [(q_5, .inr (0, [.null, .null]))]) [1] rfl
  have hDc := hD.sub (ws' := [(q_5, .inr (0, [.null, .null]))]) [1] (by decide) rfl
  have hFc := va_free (wc := [(q_5, .inr (0, [.null, .null]))]) hD hS hA [1] rfl
  refine va_callv (va_runIN (As := []) (rest := [.ref q_5, .ref wr]) ⟨hx, hb, hml, hown, hts⟩ (k_X0_init l D cI q_5 H.size) ⟨va_cnB 0 hts gX2_init_X0_init_n11 rfl rfl rfl hN2 (hts (.initialized RX0) (by decide +kernel)) (by decide +kernel) ⟨Nat.le_of_ble_eq_true rfl, Nat.le_of_ble_eq_true rfl⟩, rfl, (hts (.instanceMethod yX0_init) (by decide +kernel))⟩ ⟨kPn_blind, kPn_pre hPc hK hDc hev⟩ rfl rfl hl.1 rfl (lv_room (Nat.le_of_ble_eq_true rfl)) dX2_init_9 ⟨Nat.le_of_ble_eq_true rfl, Nat.le_of_ble_eq_true rfl⟩) hS (fun q _ h => hFc q h) hFc (fun u t H1 locs ht hvm hw_1 hB hz1 hk1 hS => ?_)
  obtain ⟨cs1_1, cl1_1⟩ := u
  obtain ⟨hP1, hK1, hD1⟩ := hB
  rw [ht] at hP1
  obtain ⟨hP, hD⟩ := va_join (wc := [(q_5, .inr (0, [.null, .null]))]) (wr := [(wr, .inr (2, [.null, .null, .int (nI 0), .int (nI 0), .int (nI 0), .int (nI 0), .int (nI 0), .int (nI 0), .int (nI 0), .int (nI 0), .int (nI 0)]))]) (w1 := [(q_5, .inr (0, [.ref cs1_1, .ref cl1_1])), (cs1_1, .inl (cI, 32, .inl (ai (fun _ => 0)))), (cl1_1, .inl (cI, 32, .inl (ai (fun _ => 0))))]) hP hD [1] [0] rfl rfl (by decide) (by decide) hk1 hFc hP1 hD1
  clear hP1 hK1 hD1 hPc hDc hFc hk1 hz1 hvm ht
  have hP : va_P D vwCl [(wr, .inr (2, [.null, .null, .int (nI 0), .int (nI 0), .int (nI 0), .int (nI 0), .int (nI 0), .int (nI 0), .int (nI 0), .int (nI 0), .int (nI 0)])), (q_5, .inr (0, [.ref cs1_1, .ref cl1_1])), (cs1_1, .inl (cI, 32, .inl (ai (fun _ => 0)))), (cl1_1, .inl (cI, 32, .inl (ai (fun _ => 0))))] H1 := hP.sub [0, 1, 2, 3] rfl
  have hD : va_D A [(wr, .inr (2, [.null, .null, .int (nI 0), .int (nI 0), .int (nI 0), .int (nI 0), .int (nI 0), .int (nI 0), .int (nI 0), .int (nI 0), .int (nI 0)])), (q_5, .inr (0, [.ref cs1_1, .ref cl1_1])), (cs1_1, .inl (cI, 32, .inl (ai (fun _ => 0)))), (cl1_1, .inl (cI, 32, .inl (ai (fun _ => 0))))] := hD.sub [0, 1, 2, 3] (by decide) rfl
  try dsimp only at hw_1
  refine va_putF (D := D) (ci := 2) (v := .ref q_5) (ty := (.object "BinStreams$Contexts")) (C := RX2) (T := TX2) (N := 11) hx hb hts iw_k_X2_init_2 tyX2 tyX2_ok nmX2 hown hK hP hD hS 0 rfl rfl 0 (by decide) (hts (.fieldLink RX2 12 "BinStreams$Writer" "contexts" "LBinStreams$Contexts;") (by decide +kernel)) (fun _ h9 => h9) rfl hin rfl (by decide +kernel) rfl rfl (Nat.le_of_ble_eq_true rfl) dX2_init_12 (fun H locs hP hD hS => ?_)
  have hP : va_P D vwCl [(wr, .inr (2, [.ref q_5, .null, .int (nI 0), .int (nI 0), .int (nI 0), .int (nI 0), .int (nI 0), .int (nI 0), .int (nI 0), .int (nI 0), .int (nI 0)])), (q_5, .inr (0, [.ref cs1_1, .ref cl1_1])), (cs1_1, .inl (cI, 32, .inl (ai (fun _ => 0)))), (cl1_1, .inl (cI, 32, .inl (ai (fun _ => 0))))] H := hP
  have hD : va_D A [(wr, .inr (2, [.ref q_5, .null, .int (nI 0), .int (nI 0), .int (nI 0), .int (nI 0), .int (nI 0), .int (nI 0), .int (nI 0), .int (nI 0), .int (nI 0)])), (q_5, .inr (0, [.ref cs1_1, .ref cl1_1])), (cs1_1, .inl (cI, 32, .inl (ai (fun _ => 0)))), (cl1_1, .inl (cI, 32, .inl (ai (fun _ => 0))))] := hD
  refine lv_aload_n hx hb dX2_init_15 rfl (lv_at hl 0 rfl) ?_
  refine lv_sipush (v := nI 302) hx hb dX2_init_16 (by decide) ?_
  refine va_newa (atype := .int) (ty := .int) (N' := 302) (a0 := (302, .inl (ai (fun _ => 0)))) hx hb (hts (.arrayClass .int) (by decide +kernel)) rfl hK hP hD hS hA (ai_new 302) (nI_pos (by decide)) (nI_clamp (by decide)) (by decide) (Nat.le_of_ble_eq_true rfl) (Nat.le_of_ble_eq_true rfl) dX2_init_19 (fun q_19 cA H hK2 hP hD hS => ?_)
  rw [cI_eq hK2 0 1 rfl rfl] at hP hD
  clear hK2
  have hP : va_P D vwCl [(wr, .inr (2, [.ref q_5, .null, .int (nI 0), .int (nI 0), .int (nI 0), .int (nI 0), .int (nI 0), .int (nI 0), .int (nI 0), .int (nI 0), .int (nI 0)])), (q_5, .inr (0, [.ref cs1_1, .ref cl1_1])), (cs1_1, .inl (cI, 32, .inl (ai (fun _ => 0)))), (cl1_1, .inl (cI, 32, .inl (ai (fun _ => 0)))), (q_19, .inl (cI, 302, .inl (ai (fun _ => 0))))] H := hP
  have hD : va_D A [(wr, .inr (2, [.ref q_5, .null, .int (nI 0), .int (nI 0), .int (nI 0), .int (nI 0), .int (nI 0), .int (nI 0), .int (nI 0), .int (nI 0), .int (nI 0)])), (q_5, .inr (0, [.ref cs1_1, .ref cl1_1])), (cs1_1, .inl (cI, 32, .inl (ai (fun _ => 0)))), (cl1_1, .inl (cI, 32, .inl (ai (fun _ => 0)))), (q_19, .inl (cI, 302, .inl (ai (fun _ => 0))))] := hD
  refine W.widen (k := 4) (n := 368) (Nat.le_of_ble_eq_true rfl) (Nat.le_of_ble_eq_true rfl) ?_
  refine va_putF (D := D) (ci := 2) (v := .ref q_19) (ty := (.array .int)) (C := RX2) (T := TX2) (N := 11) hx hb hts iw_k_X2_init_2 tyX2 tyX2_ok nmX2 hown hK hP hD hS 0 rfl rfl 1 (by decide) (hts (.fieldLink RX2 18 "BinStreams$Writer" "bytes" "[I") (by decide +kernel)) (fun _ h9 => h9) rfl hin rfl (by decide +kernel) rfl rfl (Nat.le_of_ble_eq_true rfl) dX2_init_21 (fun H locs hP hD hS => ?_)
  have hP : va_P D vwCl [(wr, .inr (2, [.ref q_5, .ref q_19, .int (nI 0), .int (nI 0), .int (nI 0), .int (nI 0), .int (nI 0), .int (nI 0), .int (nI 0), .int (nI 0), .int (nI 0)])), (q_5, .inr (0, [.ref cs1_1, .ref cl1_1])), (cs1_1, .inl (cI, 32, .inl (ai (fun _ => 0)))), (cl1_1, .inl (cI, 32, .inl (ai (fun _ => 0)))), (q_19, .inl (cI, 302, .inl (ai (fun _ => 0))))] H := hP
  have hD : va_D A [(wr, .inr (2, [.ref q_5, .ref q_19, .int (nI 0), .int (nI 0), .int (nI 0), .int (nI 0), .int (nI 0), .int (nI 0), .int (nI 0), .int (nI 0), .int (nI 0)])), (q_5, .inr (0, [.ref cs1_1, .ref cl1_1])), (cs1_1, .inl (cI, 32, .inl (ai (fun _ => 0)))), (cl1_1, .inl (cI, 32, .inl (ai (fun _ => 0)))), (q_19, .inl (cI, 302, .inl (ai (fun _ => 0))))] := hD
  exact W.vret hx hb hr (fun t ht hW => ⟨⟨(q_5, cs1_1, cl1_1, q_19), rfl, trivial, by rw [ht]; exact hP, va_K.moved hW.alike hK, hD⟩, hS.F ht⟩) hS.2.2 dX2_init_24

theorem iw_k_X1_init_0 : ∀ w ∈ u_ws RX0 TX0 2, w ∈ wsX1_init := by decide +kernel
theorem iw_k_X1_init_1 : ∀ w ∈ u_ws RX1 TX1 7, w ∈ wsX1_init := by decide +kernel
set_option maxHeartbeats 1000000 in
set_option maxRecDepth 100000 in
theorem k_X1_init (l : Launch) (D : va_G) (cI : ClassId) (rd : Nat) (sz : Nat) : Met l yX1_init wsX1_init ({ frames := 2, cells := 4, slots := 368, locals := 32 }) (kPn D [.ref rd] [(cI, .int)] [(rd, .inr (1, [.null, .int (nI 0), .int (nI 0), .int (nI 0), .null, .int (nI 0), .int (nI 0)]))] sz) (va_Qv (fun (u : Nat × Nat × Nat × Nat) => match u with | (rc, rcs, rcl, rb) => True) (fun u t => match u with | (rc, rcs, rcl, rb) => kB D [(cI, .int)] (va_A [(rd, .inr (1, [.null, .int (nI 0), .int (nI 0), .int (nI 0), .null, .int (nI 0), .int (nI 0)]))] sz) [(rd, .inr (1, [.ref rc, .int (nI 0), .int (nI 0), .int (nI 0), .ref rb, .int (nI 0), .int (nI 0)])), (rc, .inr (0, [.ref rcs, .ref rcl])), (rcs, .inl (cI, 32, .inl (ai (fun _ => 0)))), (rcl, .inl (cI, 32, .inl (ai (fun _ => 0)))), (rb, .inl (cI, 302, .inl (ai (fun _ => 0))))] t) (va_A [(rd, .inr (1, [.null, .int (nI 0), .int (nI 0), .int (nI 0), .null, .int (nI 0), .int (nI 0)]))] sz)) 4 368 (va_A [(rd, .inr (1, [.null, .int (nI 0), .int (nI 0), .int (nI 0), .null, .int (nI 0), .int (nI 0)]))] sz) := by
  refine Met.ofW (cc := cX1_init) (maxL := 1) (ret := none) (by decide) rfl ?_
  intro p e s m args below meth c s₁ B hml hv
  obtain ⟨rfl, hsz, hP, hK, hD0, hev⟩ := hv
  have hx := B.exec
  have hb := B.bytes
  have hr := B.returns
  have hts := atoms_spec (ws := wsX1_init) B.pre
  have hown : s.vm.findClass RX1 = some m.cls := findClass_of_methodNamed B.named
  have hlocks := B.notSynchronized
  have hin : meth.name = "<init>" := (name_of_methodNamed B.named B.method).1
  subst hsz
  have hD := hD0.self (sz := s.heap.size)
  clear hD0
  generalize hAe : va_A [(rd, .inr (1, [.null, .int (nI 0), .int (nI 0), .int (nI 0), .null, .int (nI 0), .int (nI 0)]))] s.heap.size = A at hD ⊢
  obtain ⟨hN9, hN18, hN25, hN1, hN2⟩ := id hev
  have hA : ∀ q : Nat, s.heap.size ≤ q → A q := fun q h => by rw [← hAe]; exact Or.inr h
  clear hAe
  have hS : va_S A s.heap s.heap [] := va_S.rf
  have hl := lv_entry ([.ref rd]) (n := 1) (Nat.le_of_ble_eq_true rfl)
  rw [lg_entry_eq]
  generalize (lg_sl ([.ref rd]) ++ List.replicate (1 - (lg_sl ([.ref rd])).length) Slot.unset).toArray = ls at hl ⊢
  have hl : lv_has ls 1 [(0, .ref rd)] := hl
  refine lv_aload_n hx hb dX1_init_0 rfl (lv_at hl 0 rfl) ?_
  refine W.objInit hx hb hown (hts (.methodLink RX1 3 objectInit) (by decide +kernel)) (hts (.instanceMethod objectInit) (by decide +kernel)) (hts (.code objectInit ⟨#[0xb1]⟩ 1 none) (by decide +kernel)) rfl (by rw [hml]; exact hl.1) rfl dX1_init_1 (Nat.le_of_ble_eq_true rfl) (Nat.le_of_ble_eq_true rfl) ?_
  refine W.eq (g2 := F0 m 4 ls []) rfl ?_
  refine lv_aload_n hx hb dX1_init_4 rfl (lv_at hl 0 rfl) ?_
  refine va_new (ci := 0) (fs := [.null, .null]) (C := RX0) (T := TX0) (N := 2) hx hb hts iw_k_X1_init_0 tyX0 tyX0_ok hown (hts (.classLink RX1 9 RX0) (by decide +kernel)) (hts (.instantiable RX0 2) (by decide +kernel)) (hts (.initialized RX0) (by decide +kernel)) hK hP hD hS hA rfl (fun j hj => by rcases (show j = 0 ∨ j = 1 by omega) with rfl | rfl <;> rfl) (Nat.le_of_ble_eq_true rfl) (Nat.le_of_ble_eq_true rfl) dX1_init_5 (fun q_5 H hP hD hS => ?_)
  have hP : va_P D vwCl [(rd, .inr (1, [.null, .int (nI 0), .int (nI 0), .int (nI 0), .null, .int (nI 0), .int (nI 0)])), (q_5, .inr (0, [.null, .null]))] H := hP
  have hD : va_D A [(rd, .inr (1, [.null, .int (nI 0), .int (nI 0), .int (nI 0), .null, .int (nI 0), .int (nI 0)])), (q_5, .inr (0, [.null, .null]))] := hD
  refine W.widen (k := 1) (n := 2) (Nat.le_of_ble_eq_true rfl) (Nat.le_of_ble_eq_true rfl) ?_
  refine lv_dup hx hb dX1_init_8 rfl ?_
  have hPc := hP.sub (ws' := [(q_5, .inr (0, [.null, .null]))]) [1] rfl
  have hDc := hD.sub (ws' := [(q_5, .inr (0, [.null, .null]))]) [1] (by decide) rfl
  have hFc := va_free (wc := [(q_5, .inr (0, [.null, .null]))]) hD hS hA [1] rfl
  refine va_callv (va_runIN (As := []) (rest := [.ref q_5, .ref rd]) ⟨hx, hb, hml, hown, hts⟩ (k_X0_init l D cI q_5 H.size) ⟨va_cnB 0 hts gX1_init_X0_init_n11 rfl rfl rfl hN1 (hts (.initialized RX0) (by decide +kernel)) (by decide +kernel) ⟨Nat.le_of_ble_eq_true rfl, Nat.le_of_ble_eq_true rfl⟩, rfl, (hts (.instanceMethod yX0_init) (by decide +kernel))⟩ ⟨kPn_blind, kPn_pre hPc hK hDc hev⟩ rfl rfl hl.1 rfl (lv_room (Nat.le_of_ble_eq_true rfl)) dX1_init_9 ⟨Nat.le_of_ble_eq_true rfl, Nat.le_of_ble_eq_true rfl⟩) hS (fun q _ h => hFc q h) hFc (fun u t H1 locs ht hvm hw_1 hB hz1 hk1 hS => ?_)
  obtain ⟨cs1_1, cl1_1⟩ := u
  obtain ⟨hP1, hK1, hD1⟩ := hB
  rw [ht] at hP1
  obtain ⟨hP, hD⟩ := va_join (wc := [(q_5, .inr (0, [.null, .null]))]) (wr := [(rd, .inr (1, [.null, .int (nI 0), .int (nI 0), .int (nI 0), .null, .int (nI 0), .int (nI 0)]))]) (w1 := [(q_5, .inr (0, [.ref cs1_1, .ref cl1_1])), (cs1_1, .inl (cI, 32, .inl (ai (fun _ => 0)))), (cl1_1, .inl (cI, 32, .inl (ai (fun _ => 0))))]) hP hD [1] [0] rfl rfl (by decide) (by decide) hk1 hFc hP1 hD1
  clear hP1 hK1 hD1 hPc hDc hFc hk1 hz1 hvm ht
  have hP : va_P D vwCl [(rd, .inr (1, [.null, .int (nI 0), .int (nI 0), .int (nI 0), .null, .int (nI 0), .int (nI 0)])), (q_5, .inr (0, [.ref cs1_1, .ref cl1_1])), (cs1_1, .inl (cI, 32, .inl (ai (fun _ => 0)))), (cl1_1, .inl (cI, 32, .inl (ai (fun _ => 0))))] H1 := hP.sub [0, 1, 2, 3] rfl
  have hD : va_D A [(rd, .inr (1, [.null, .int (nI 0), .int (nI 0), .int (nI 0), .null, .int (nI 0), .int (nI 0)])), (q_5, .inr (0, [.ref cs1_1, .ref cl1_1])), (cs1_1, .inl (cI, 32, .inl (ai (fun _ => 0)))), (cl1_1, .inl (cI, 32, .inl (ai (fun _ => 0))))] := hD.sub [0, 1, 2, 3] (by decide) rfl
  try dsimp only at hw_1
  refine va_putF (D := D) (ci := 1) (v := .ref q_5) (ty := (.object "BinStreams$Contexts")) (C := RX1) (T := TX1) (N := 7) hx hb hts iw_k_X1_init_1 tyX1 tyX1_ok nmX1 hown hK hP hD hS 0 rfl rfl 0 (by decide) (hts (.fieldLink RX1 12 "BinStreams$Reader" "contexts" "LBinStreams$Contexts;") (by decide +kernel)) (fun _ h9 => h9) rfl hin rfl (by decide +kernel) rfl rfl (Nat.le_of_ble_eq_true rfl) dX1_init_12 (fun H locs hP hD hS => ?_)
  have hP : va_P D vwCl [(rd, .inr (1, [.ref q_5, .int (nI 0), .int (nI 0), .int (nI 0), .null, .int (nI 0), .int (nI 0)])), (q_5, .inr (0, [.ref cs1_1, .ref cl1_1])), (cs1_1, .inl (cI, 32, .inl (ai (fun _ => 0)))), (cl1_1, .inl (cI, 32, .inl (ai (fun _ => 0))))] H := hP
  have hD : va_D A [(rd, .inr (1, [.ref q_5, .int (nI 0), .int (nI 0), .int (nI 0), .null, .int (nI 0), .int (nI 0)])), (q_5, .inr (0, [.ref cs1_1, .ref cl1_1])), (cs1_1, .inl (cI, 32, .inl (ai (fun _ => 0)))), (cl1_1, .inl (cI, 32, .inl (ai (fun _ => 0))))] := hD
  refine lv_aload_n hx hb dX1_init_15 rfl (lv_at hl 0 rfl) ?_
  refine lv_sipush (v := nI 302) hx hb dX1_init_16 (by decide) ?_
  refine va_newa (atype := .int) (ty := .int) (N' := 302) (a0 := (302, .inl (ai (fun _ => 0)))) hx hb (hts (.arrayClass .int) (by decide +kernel)) rfl hK hP hD hS hA (ai_new 302) (nI_pos (by decide)) (nI_clamp (by decide)) (by decide) (Nat.le_of_ble_eq_true rfl) (Nat.le_of_ble_eq_true rfl) dX1_init_19 (fun q_19 cA H hK2 hP hD hS => ?_)
  rw [cI_eq hK2 0 1 rfl rfl] at hP hD
  clear hK2
  have hP : va_P D vwCl [(rd, .inr (1, [.ref q_5, .int (nI 0), .int (nI 0), .int (nI 0), .null, .int (nI 0), .int (nI 0)])), (q_5, .inr (0, [.ref cs1_1, .ref cl1_1])), (cs1_1, .inl (cI, 32, .inl (ai (fun _ => 0)))), (cl1_1, .inl (cI, 32, .inl (ai (fun _ => 0)))), (q_19, .inl (cI, 302, .inl (ai (fun _ => 0))))] H := hP
  have hD : va_D A [(rd, .inr (1, [.ref q_5, .int (nI 0), .int (nI 0), .int (nI 0), .null, .int (nI 0), .int (nI 0)])), (q_5, .inr (0, [.ref cs1_1, .ref cl1_1])), (cs1_1, .inl (cI, 32, .inl (ai (fun _ => 0)))), (cl1_1, .inl (cI, 32, .inl (ai (fun _ => 0)))), (q_19, .inl (cI, 302, .inl (ai (fun _ => 0))))] := hD
  refine W.widen (k := 4) (n := 368) (Nat.le_of_ble_eq_true rfl) (Nat.le_of_ble_eq_true rfl) ?_
  refine va_putF (D := D) (ci := 1) (v := .ref q_19) (ty := (.array .int)) (C := RX1) (T := TX1) (N := 7) hx hb hts iw_k_X1_init_1 tyX1 tyX1_ok nmX1 hown hK hP hD hS 0 rfl rfl 4 (by decide) (hts (.fieldLink RX1 18 "BinStreams$Reader" "bytes" "[I") (by decide +kernel)) (fun _ h9 => h9) rfl hin rfl (by decide +kernel) rfl rfl (Nat.le_of_ble_eq_true rfl) dX1_init_21 (fun H locs hP hD hS => ?_)
  have hP : va_P D vwCl [(rd, .inr (1, [.ref q_5, .int (nI 0), .int (nI 0), .int (nI 0), .ref q_19, .int (nI 0), .int (nI 0)])), (q_5, .inr (0, [.ref cs1_1, .ref cl1_1])), (cs1_1, .inl (cI, 32, .inl (ai (fun _ => 0)))), (cl1_1, .inl (cI, 32, .inl (ai (fun _ => 0)))), (q_19, .inl (cI, 302, .inl (ai (fun _ => 0))))] H := hP
  have hD : va_D A [(rd, .inr (1, [.ref q_5, .int (nI 0), .int (nI 0), .int (nI 0), .ref q_19, .int (nI 0), .int (nI 0)])), (q_5, .inr (0, [.ref cs1_1, .ref cl1_1])), (cs1_1, .inl (cI, 32, .inl (ai (fun _ => 0)))), (cl1_1, .inl (cI, 32, .inl (ai (fun _ => 0)))), (q_19, .inl (cI, 302, .inl (ai (fun _ => 0))))] := hD
  exact W.vret hx hb hr (fun t ht hW => ⟨⟨(q_5, cs1_1, cl1_1, q_19), rfl, trivial, by rw [ht]; exact hP, va_K.moved hW.alike hK, hD⟩, hS.F ht⟩) hS.2.2 dX1_init_24

theorem iw_k_X3_init_0 : ∀ w ∈ u_ws RX0 TX0 2, w ∈ wsX3_init := by decide +kernel
theorem iw_k_X3_init_1 : ∀ w ∈ u_ws RX1 TX1 7, w ∈ wsX3_init := by decide +kernel
theorem iw_k_X3_init_2 : ∀ w ∈ u_ws RX2 TX2 11, w ∈ wsX3_init := by decide +kernel
theorem iw_k_X3_init_3 : ∀ w ∈ u_ws RX3 TX3 3, w ∈ wsX3_init := by decide +kernel
set_option maxHeartbeats 1000000 in
set_option maxRecDepth 100000 in
theorem k_X3_init (l : Launch) (D : va_G) (cI : ClassId) (x : Nat) (sz : Nat) : Met l yX3_init wsX3_init ({ frames := 3, cells := 13, slots := 820, locals := 52 }) (kPn D [.ref x] [(cI, .int)] [(x, .inr (3, [.null, .null, .null]))] sz) (va_Qv (fun (u : Nat × Nat × Nat × Nat × Nat × Nat × Nat × Nat × Nat × Nat × Nat × Nat × Nat) => match u with | (st, ss, sl, wr, wc, cs, cl, wb, rd, rc, rcs, rcl, rb) => True) (fun u t => match u with | (st, ss, sl, wr, wc, cs, cl, wb, rd, rc, rcs, rcl, rb) => kB D [(cI, .int)] (va_A [(x, .inr (3, [.null, .null, .null]))] sz) [(x, .inr (3, [.ref st, .ref wr, .ref rd])), (st, .inr (0, [.ref ss, .ref sl])), (ss, .inl (cI, 32, .inl (ai (fun _ => 0)))), (sl, .inl (cI, 32, .inl (ai (fun _ => 0)))), (wr, .inr (2, [.ref wc, .ref wb, .int (nI 0), .int (nI 0), .int (nI 0), .int (nI 0), .int (nI 0), .int (nI 0), .int (nI 0), .int (nI 0), .int (nI 0)])), (wc, .inr (0, [.ref cs, .ref cl])), (cs, .inl (cI, 32, .inl (ai (fun _ => 0)))), (cl, .inl (cI, 32, .inl (ai (fun _ => 0)))), (wb, .inl (cI, 302, .inl (ai (fun _ => 0)))), (rd, .inr (1, [.ref rc, .int (nI 0), .int (nI 0), .int (nI 0), .ref rb, .int (nI 0), .int (nI 0)])), (rc, .inr (0, [.ref rcs, .ref rcl])), (rcs, .inl (cI, 32, .inl (ai (fun _ => 0)))), (rcl, .inl (cI, 32, .inl (ai (fun _ => 0)))), (rb, .inl (cI, 302, .inl (ai (fun _ => 0))))] t) (va_A [(x, .inr (3, [.null, .null, .null]))] sz)) 13 820 (va_A [(x, .inr (3, [.null, .null, .null]))] sz) := by
  refine Met.ofW (cc := cX3_init) (maxL := 1) (ret := none) (by decide) rfl ?_
  intro p e s m args below meth c s₁ B hml hv
  obtain ⟨rfl, hsz, hP, hK, hD0, hev⟩ := hv
  have hx := B.exec
  have hb := B.bytes
  have hr := B.returns
  have hts := atoms_spec (ws := wsX3_init) B.pre
  have hown : s.vm.findClass RX3 = some m.cls := findClass_of_methodNamed B.named
  have hlocks := B.notSynchronized
  have hin : meth.name = "<init>" := (name_of_methodNamed B.named B.method).1
  subst hsz
  have hD := hD0.self (sz := s.heap.size)
  clear hD0
  generalize hAe : va_A [(x, .inr (3, [.null, .null, .null]))] s.heap.size = A at hD ⊢
  obtain ⟨hN9, hN18, hN25, hN1, hN2⟩ := id hev
  have hA : ∀ q : Nat, s.heap.size ≤ q → A q := fun q h => by rw [← hAe]; exact Or.inr h
  clear hAe
  have hS : va_S A s.heap s.heap [] := va_S.rf
  have hl := lv_entry ([.ref x]) (n := 1) (Nat.le_of_ble_eq_true rfl)
  rw [lg_entry_eq]
  generalize (lg_sl ([.ref x]) ++ List.replicate (1 - (lg_sl ([.ref x])).length) Slot.unset).toArray = ls at hl ⊢
  have hl : lv_has ls 1 [(0, .ref x)] := hl
  refine lv_aload_n hx hb dX3_init_0 rfl (lv_at hl 0 rfl) ?_
  refine W.objInit hx hb hown (hts (.methodLink RX3 1 objectInit) (by decide +kernel)) (hts (.instanceMethod objectInit) (by decide +kernel)) (hts (.code objectInit ⟨#[0xb1]⟩ 1 none) (by decide +kernel)) rfl (by rw [hml]; exact hl.1) rfl dX3_init_1 (Nat.le_of_ble_eq_true rfl) (Nat.le_of_ble_eq_true rfl) ?_
  refine W.eq (g2 := F0 m 4 ls []) rfl ?_
  refine lv_aload_n hx hb dX3_init_4 rfl (lv_at hl 0 rfl) ?_
  refine va_new (ci := 0) (fs := [.null, .null]) (C := RX0) (T := TX0) (N := 2) hx hb hts iw_k_X3_init_0 tyX0 tyX0_ok hown (hts (.classLink RX3 7 RX0) (by decide +kernel)) (hts (.instantiable RX0 2) (by decide +kernel)) (hts (.initialized RX0) (by decide +kernel)) hK hP hD hS hA rfl (fun j hj => by rcases (show j = 0 ∨ j = 1 by omega) with rfl | rfl <;> rfl) (Nat.le_of_ble_eq_true rfl) (Nat.le_of_ble_eq_true rfl) dX3_init_5 (fun q_5 H hP hD hS => ?_)
  have hP : va_P D vwCl [(x, .inr (3, [.null, .null, .null])), (q_5, .inr (0, [.null, .null]))] H := hP
  have hD : va_D A [(x, .inr (3, [.null, .null, .null])), (q_5, .inr (0, [.null, .null]))] := hD
  refine W.widen (k := 1) (n := 2) (Nat.le_of_ble_eq_true rfl) (Nat.le_of_ble_eq_true rfl) ?_
  refine lv_dup hx hb dX3_init_8 rfl ?_
  have hPc := hP.sub (ws' := [(q_5, .inr (0, [.null, .null]))]) [1] rfl
  have hDc := hD.sub (ws' := [(q_5, .inr (0, [.null, .null]))]) [1] (by decide) rfl
  have hFc := va_free (wc := [(q_5, .inr (0, [.null, .null]))]) hD hS hA [1] rfl
  refine va_callv (va_runIN (As := []) (rest := [.ref q_5, .ref x]) ⟨hx, hb, hml, hown, hts⟩ (k_X0_init l D cI q_5 H.size) ⟨va_cnB 0 hts gX3_init_X0_init_n9 rfl rfl rfl hN9 (hts (.initialized RX0) (by decide +kernel)) (by decide +kernel) ⟨Nat.le_of_ble_eq_true rfl, Nat.le_of_ble_eq_true rfl⟩, rfl, (hts (.instanceMethod yX0_init) (by decide +kernel))⟩ ⟨kPn_blind, kPn_pre hPc hK hDc hev⟩ rfl rfl hl.1 rfl (lv_room (Nat.le_of_ble_eq_true rfl)) dX3_init_9 ⟨Nat.le_of_ble_eq_true rfl, Nat.le_of_ble_eq_true rfl⟩) hS (fun q _ h => hFc q h) hFc (fun u t H1 locs ht hvm hw_1 hB hz1 hk1 hS => ?_)
  obtain ⟨cs1_1, cl1_1⟩ := u
  obtain ⟨hP1, hK1, hD1⟩ := hB
  rw [ht] at hP1
  obtain ⟨hP, hD⟩ := va_join (wc := [(q_5, .inr (0, [.null, .null]))]) (wr := [(x, .inr (3, [.null, .null, .null]))]) (w1 := [(q_5, .inr (0, [.ref cs1_1, .ref cl1_1])), (cs1_1, .inl (cI, 32, .inl (ai (fun _ => 0)))), (cl1_1, .inl (cI, 32, .inl (ai (fun _ => 0))))]) hP hD [1] [0] rfl rfl (by decide) (by decide) hk1 hFc hP1 hD1
  clear hP1 hK1 hD1 hPc hDc hFc hk1 hz1 hvm ht
  have hP : va_P D vwCl [(x, .inr (3, [.null, .null, .null])), (q_5, .inr (0, [.ref cs1_1, .ref cl1_1])), (cs1_1, .inl (cI, 32, .inl (ai (fun _ => 0)))), (cl1_1, .inl (cI, 32, .inl (ai (fun _ => 0))))] H1 := hP.sub [0, 1, 2, 3] rfl
  have hD : va_D A [(x, .inr (3, [.null, .null, .null])), (q_5, .inr (0, [.ref cs1_1, .ref cl1_1])), (cs1_1, .inl (cI, 32, .inl (ai (fun _ => 0)))), (cl1_1, .inl (cI, 32, .inl (ai (fun _ => 0))))] := hD.sub [0, 1, 2, 3] (by decide) rfl
  try dsimp only at hw_1
  refine va_putF (D := D) (ci := 3) (v := .ref q_5) (ty := (.object "BinStreams$Contexts")) (C := RX3) (T := TX3) (N := 3) hx hb hts iw_k_X3_init_3 tyX3 tyX3_ok nmX3 hown hK hP hD hS 0 rfl rfl 0 (by decide) (hts (.fieldLink RX3 10 "BinStreams" "starts" "LBinStreams$Contexts;") (by decide +kernel)) (fun _ h9 => h9) rfl hin rfl (by decide +kernel) rfl rfl (Nat.le_of_ble_eq_true rfl) dX3_init_12 (fun H locs hP hD hS => ?_)
  have hP : va_P D vwCl [(x, .inr (3, [.ref q_5, .null, .null])), (q_5, .inr (0, [.ref cs1_1, .ref cl1_1])), (cs1_1, .inl (cI, 32, .inl (ai (fun _ => 0)))), (cl1_1, .inl (cI, 32, .inl (ai (fun _ => 0))))] H := hP
  have hD : va_D A [(x, .inr (3, [.ref q_5, .null, .null])), (q_5, .inr (0, [.ref cs1_1, .ref cl1_1])), (cs1_1, .inl (cI, 32, .inl (ai (fun _ => 0)))), (cl1_1, .inl (cI, 32, .inl (ai (fun _ => 0))))] := hD
  refine lv_aload_n hx hb dX3_init_15 rfl (lv_at hl 0 rfl) ?_
  refine va_new (ci := 2) (fs := [.null, .null, .int (nI 0), .int (nI 0), .int (nI 0), .int (nI 0), .int (nI 0), .int (nI 0), .int (nI 0), .int (nI 0), .int (nI 0)]) (C := RX2) (T := TX2) (N := 11) hx hb hts iw_k_X3_init_2 tyX2 tyX2_ok hown (hts (.classLink RX3 16 RX2) (by decide +kernel)) (hts (.instantiable RX2 11) (by decide +kernel)) (hts (.initialized RX2) (by decide +kernel)) hK hP hD hS hA rfl (fun j hj => by rcases (show j = 0 ∨ j = 1 ∨ j = 2 ∨ j = 3 ∨ j = 4 ∨ j = 5 ∨ j = 6 ∨ j = 7 ∨ j = 8 ∨ j = 9 ∨ j = 10 by omega) with rfl | rfl | rfl | rfl | rfl | rfl | rfl | rfl | rfl | rfl | rfl <;> rfl) (Nat.le_of_ble_eq_true rfl) (Nat.le_of_ble_eq_true rfl) dX3_init_16 (fun q_16 H hP hD hS => ?_)
  have hP : va_P D vwCl [(x, .inr (3, [.ref q_5, .null, .null])), (q_5, .inr (0, [.ref cs1_1, .ref cl1_1])), (cs1_1, .inl (cI, 32, .inl (ai (fun _ => 0)))), (cl1_1, .inl (cI, 32, .inl (ai (fun _ => 0)))), (q_16, .inr (2, [.null, .null, .int (nI 0), .int (nI 0), .int (nI 0), .int (nI 0), .int (nI 0), .int (nI 0), .int (nI 0), .int (nI 0), .int (nI 0)]))] H := hP
  have hD : va_D A [(x, .inr (3, [.ref q_5, .null, .null])), (q_5, .inr (0, [.ref cs1_1, .ref cl1_1])), (cs1_1, .inl (cI, 32, .inl (ai (fun _ => 0)))), (cl1_1, .inl (cI, 32, .inl (ai (fun _ => 0)))), (q_16, .inr (2, [.null, .null, .int (nI 0), .int (nI 0), .int (nI 0), .int (nI 0), .int (nI 0), .int (nI 0), .int (nI 0), .int (nI 0), .int (nI 0)]))] := hD
  refine W.widen (k := 4) (n := 77) (Nat.le_of_ble_eq_true rfl) (Nat.le_of_ble_eq_true rfl) ?_
  refine lv_dup hx hb dX3_init_19 rfl ?_
  have hPc := hP.sub (ws' := [(q_16, .inr (2, [.null, .null, .int (nI 0), .int (nI 0), .int (nI 0), .int (nI 0), .int (nI 0), .int (nI 0), .int (nI 0), .int (nI 0), .int (nI 0)]))]) [4] rfl
  have hDc := hD.sub (ws' := [(q_16, .inr (2, [.null, .null, .int (nI 0), .int (nI 0), .int (nI 0), .int (nI 0), .int (nI 0), .int (nI 0), .int (nI 0), .int (nI 0), .int (nI 0)]))]) [4] (by decide) rfl
  have hFc := va_free (wc := [(q_16, .inr (2, [.null, .null, .int (nI 0), .int (nI 0), .int (nI 0), .int (nI 0), .int (nI 0), .int (nI 0), .int (nI 0), .int (nI 0), .int (nI 0)]))]) hD hS hA [4] rfl
  refine va_callv (va_runIN (As := []) (rest := [.ref q_16, .ref x]) ⟨hx, hb, hml, hown, hts⟩ (k_X2_init l D cI q_16 H.size) ⟨va_cnB 0 hts gX3_init_X2_init_n18 rfl rfl rfl hN18 (hts (.initialized RX2) (by decide +kernel)) (by decide +kernel) ⟨Nat.le_of_ble_eq_true rfl, Nat.le_of_ble_eq_true rfl⟩, rfl, (hts (.instanceMethod yX2_init) (by decide +kernel))⟩ ⟨kPn_blind, kPn_pre hPc hK hDc hev⟩ rfl rfl hl.1 rfl (lv_room (Nat.le_of_ble_eq_true rfl)) dX3_init_20 ⟨Nat.le_of_ble_eq_true rfl, Nat.le_of_ble_eq_true rfl⟩) hS (fun q _ h => hFc q h) hFc (fun u t H1 locs ht hvm hw_2 hB hz1 hk1 hS => ?_)
  obtain ⟨wc_2, cs_2, cl_2, wb_2⟩ := u
  obtain ⟨hP1, hK1, hD1⟩ := hB
  rw [ht] at hP1
  obtain ⟨hP, hD⟩ := va_join (wc := [(q_16, .inr (2, [.null, .null, .int (nI 0), .int (nI 0), .int (nI 0), .int (nI 0), .int (nI 0), .int (nI 0), .int (nI 0), .int (nI 0), .int (nI 0)]))]) (wr := [(x, .inr (3, [.ref q_5, .null, .null])), (q_5, .inr (0, [.ref cs1_1, .ref cl1_1])), (cs1_1, .inl (cI, 32, .inl (ai (fun _ => 0)))), (cl1_1, .inl (cI, 32, .inl (ai (fun _ => 0))))]) (w1 := [(q_16, .inr (2, [.ref wc_2, .ref wb_2, .int (nI 0), .int (nI 0), .int (nI 0), .int (nI 0), .int (nI 0), .int (nI 0), .int (nI 0), .int (nI 0), .int (nI 0)])), (wc_2, .inr (0, [.ref cs_2, .ref cl_2])), (cs_2, .inl (cI, 32, .inl (ai (fun _ => 0)))), (cl_2, .inl (cI, 32, .inl (ai (fun _ => 0)))), (wb_2, .inl (cI, 302, .inl (ai (fun _ => 0))))]) hP hD [4] [0, 1, 2, 3] rfl rfl (by decide) (by decide) hk1 hFc hP1 hD1
  clear hP1 hK1 hD1 hPc hDc hFc hk1 hz1 hvm ht
  have hP : va_P D vwCl [(x, .inr (3, [.ref q_5, .null, .null])), (q_5, .inr (0, [.ref cs1_1, .ref cl1_1])), (cs1_1, .inl (cI, 32, .inl (ai (fun _ => 0)))), (cl1_1, .inl (cI, 32, .inl (ai (fun _ => 0)))), (q_16, .inr (2, [.ref wc_2, .ref wb_2, .int (nI 0), .int (nI 0), .int (nI 0), .int (nI 0), .int (nI 0), .int (nI 0), .int (nI 0), .int (nI 0), .int (nI 0)])), (wc_2, .inr (0, [.ref cs_2, .ref cl_2])), (cs_2, .inl (cI, 32, .inl (ai (fun _ => 0)))), (cl_2, .inl (cI, 32, .inl (ai (fun _ => 0)))), (wb_2, .inl (cI, 302, .inl (ai (fun _ => 0))))] H1 := hP.sub [0, 1, 2, 3, 4, 5, 6, 7, 8] rfl
  have hD : va_D A [(x, .inr (3, [.ref q_5, .null, .null])), (q_5, .inr (0, [.ref cs1_1, .ref cl1_1])), (cs1_1, .inl (cI, 32, .inl (ai (fun _ => 0)))), (cl1_1, .inl (cI, 32, .inl (ai (fun _ => 0)))), (q_16, .inr (2, [.ref wc_2, .ref wb_2, .int (nI 0), .int (nI 0), .int (nI 0), .int (nI 0), .int (nI 0), .int (nI 0), .int (nI 0), .int (nI 0), .int (nI 0)])), (wc_2, .inr (0, [.ref cs_2, .ref cl_2])), (cs_2, .inl (cI, 32, .inl (ai (fun _ => 0)))), (cl_2, .inl (cI, 32, .inl (ai (fun _ => 0)))), (wb_2, .inl (cI, 302, .inl (ai (fun _ => 0))))] := hD.sub [0, 1, 2, 3, 4, 5, 6, 7, 8] (by decide) rfl
  try dsimp only at hw_2
  refine va_putF (D := D) (ci := 3) (v := .ref q_16) (ty := (.object "BinStreams$Writer")) (C := RX3) (T := TX3) (N := 3) hx hb hts iw_k_X3_init_3 tyX3 tyX3_ok nmX3 hown hK hP hD hS 0 rfl rfl 1 (by decide) (hts (.fieldLink RX3 19 "BinStreams" "writer" "LBinStreams$Writer;") (by decide +kernel)) (fun _ h9 => h9) rfl hin rfl (by decide +kernel) rfl rfl (Nat.le_of_ble_eq_true rfl) dX3_init_23 (fun H locs hP hD hS => ?_)
  have hP : va_P D vwCl [(x, .inr (3, [.ref q_5, .ref q_16, .null])), (q_5, .inr (0, [.ref cs1_1, .ref cl1_1])), (cs1_1, .inl (cI, 32, .inl (ai (fun _ => 0)))), (cl1_1, .inl (cI, 32, .inl (ai (fun _ => 0)))), (q_16, .inr (2, [.ref wc_2, .ref wb_2, .int (nI 0), .int (nI 0), .int (nI 0), .int (nI 0), .int (nI 0), .int (nI 0), .int (nI 0), .int (nI 0), .int (nI 0)])), (wc_2, .inr (0, [.ref cs_2, .ref cl_2])), (cs_2, .inl (cI, 32, .inl (ai (fun _ => 0)))), (cl_2, .inl (cI, 32, .inl (ai (fun _ => 0)))), (wb_2, .inl (cI, 302, .inl (ai (fun _ => 0))))] H := hP
  have hD : va_D A [(x, .inr (3, [.ref q_5, .ref q_16, .null])), (q_5, .inr (0, [.ref cs1_1, .ref cl1_1])), (cs1_1, .inl (cI, 32, .inl (ai (fun _ => 0)))), (cl1_1, .inl (cI, 32, .inl (ai (fun _ => 0)))), (q_16, .inr (2, [.ref wc_2, .ref wb_2, .int (nI 0), .int (nI 0), .int (nI 0), .int (nI 0), .int (nI 0), .int (nI 0), .int (nI 0), .int (nI 0), .int (nI 0)])), (wc_2, .inr (0, [.ref cs_2, .ref cl_2])), (cs_2, .inl (cI, 32, .inl (ai (fun _ => 0)))), (cl_2, .inl (cI, 32, .inl (ai (fun _ => 0)))), (wb_2, .inl (cI, 302, .inl (ai (fun _ => 0))))] := hD
  refine lv_aload_n hx hb dX3_init_26 rfl (lv_at hl 0 rfl) ?_
  refine va_new (ci := 1) (fs := [.null, .int (nI 0), .int (nI 0), .int (nI 0), .null, .int (nI 0), .int (nI 0)]) (C := RX1) (T := TX1) (N := 7) hx hb hts iw_k_X3_init_1 tyX1 tyX1_ok hown (hts (.classLink RX3 23 RX1) (by decide +kernel)) (hts (.instantiable RX1 7) (by decide +kernel)) (hts (.initialized RX1) (by decide +kernel)) hK hP hD hS hA rfl (fun j hj => by rcases (show j = 0 ∨ j = 1 ∨ j = 2 ∨ j = 3 ∨ j = 4 ∨ j = 5 ∨ j = 6 by omega) with rfl | rfl | rfl | rfl | rfl | rfl | rfl <;> rfl) (Nat.le_of_ble_eq_true rfl) (Nat.le_of_ble_eq_true rfl) dX3_init_27 (fun q_27 H hP hD hS => ?_)
  have hP : va_P D vwCl [(x, .inr (3, [.ref q_5, .ref q_16, .null])), (q_5, .inr (0, [.ref cs1_1, .ref cl1_1])), (cs1_1, .inl (cI, 32, .inl (ai (fun _ => 0)))), (cl1_1, .inl (cI, 32, .inl (ai (fun _ => 0)))), (q_16, .inr (2, [.ref wc_2, .ref wb_2, .int (nI 0), .int (nI 0), .int (nI 0), .int (nI 0), .int (nI 0), .int (nI 0), .int (nI 0), .int (nI 0), .int (nI 0)])), (wc_2, .inr (0, [.ref cs_2, .ref cl_2])), (cs_2, .inl (cI, 32, .inl (ai (fun _ => 0)))), (cl_2, .inl (cI, 32, .inl (ai (fun _ => 0)))), (wb_2, .inl (cI, 302, .inl (ai (fun _ => 0)))), (q_27, .inr (1, [.null, .int (nI 0), .int (nI 0), .int (nI 0), .null, .int (nI 0), .int (nI 0)]))] H := hP
  have hD : va_D A [(x, .inr (3, [.ref q_5, .ref q_16, .null])), (q_5, .inr (0, [.ref cs1_1, .ref cl1_1])), (cs1_1, .inl (cI, 32, .inl (ai (fun _ => 0)))), (cl1_1, .inl (cI, 32, .inl (ai (fun _ => 0)))), (q_16, .inr (2, [.ref wc_2, .ref wb_2, .int (nI 0), .int (nI 0), .int (nI 0), .int (nI 0), .int (nI 0), .int (nI 0), .int (nI 0), .int (nI 0), .int (nI 0)])), (wc_2, .inr (0, [.ref cs_2, .ref cl_2])), (cs_2, .inl (cI, 32, .inl (ai (fun _ => 0)))), (cl_2, .inl (cI, 32, .inl (ai (fun _ => 0)))), (wb_2, .inl (cI, 302, .inl (ai (fun _ => 0)))), (q_27, .inr (1, [.null, .int (nI 0), .int (nI 0), .int (nI 0), .null, .int (nI 0), .int (nI 0)]))] := hD
  refine W.widen (k := 9) (n := 452) (Nat.le_of_ble_eq_true rfl) (Nat.le_of_ble_eq_true rfl) ?_
  refine lv_dup hx hb dX3_init_30 rfl ?_
  have hPc := hP.sub (ws' := [(q_27, .inr (1, [.null, .int (nI 0), .int (nI 0), .int (nI 0), .null, .int (nI 0), .int (nI 0)]))]) [9] rfl
  have hDc := hD.sub (ws' := [(q_27, .inr (1, [.null, .int (nI 0), .int (nI 0), .int (nI 0), .null, .int (nI 0), .int (nI 0)]))]) [9] (by decide) rfl
  have hFc := va_free (wc := [(q_27, .inr (1, [.null, .int (nI 0), .int (nI 0), .int (nI 0), .null, .int (nI 0), .int (nI 0)]))]) hD hS hA [9] rfl
  refine va_callv (va_runIN (As := []) (rest := [.ref q_27, .ref x]) ⟨hx, hb, hml, hown, hts⟩ (k_X1_init l D cI q_27 H.size) ⟨va_cnB 0 hts gX3_init_X1_init_n25 rfl rfl rfl hN25 (hts (.initialized RX1) (by decide +kernel)) (by decide +kernel) ⟨Nat.le_of_ble_eq_true rfl, Nat.le_of_ble_eq_true rfl⟩, rfl, (hts (.instanceMethod yX1_init) (by decide +kernel))⟩ ⟨kPn_blind, kPn_pre hPc hK hDc hev⟩ rfl rfl hl.1 rfl (lv_room (Nat.le_of_ble_eq_true rfl)) dX3_init_31 ⟨Nat.le_of_ble_eq_true rfl, Nat.le_of_ble_eq_true rfl⟩) hS (fun q _ h => hFc q h) hFc (fun u t H1 locs ht hvm hw_3 hB hz1 hk1 hS => ?_)
  obtain ⟨rc_3, rcs_3, rcl_3, rb_3⟩ := u
  obtain ⟨hP1, hK1, hD1⟩ := hB
  rw [ht] at hP1
  obtain ⟨hP, hD⟩ := va_join (wc := [(q_27, .inr (1, [.null, .int (nI 0), .int (nI 0), .int (nI 0), .null, .int (nI 0), .int (nI 0)]))]) (wr := [(x, .inr (3, [.ref q_5, .ref q_16, .null])), (q_5, .inr (0, [.ref cs1_1, .ref cl1_1])), (cs1_1, .inl (cI, 32, .inl (ai (fun _ => 0)))), (cl1_1, .inl (cI, 32, .inl (ai (fun _ => 0)))), (q_16, .inr (2, [.ref wc_2, .ref wb_2, .int (nI 0), .int (nI 0), .int (nI 0), .int (nI 0), .int (nI 0), .int (nI 0), .int (nI 0), .int (nI 0), .int (nI 0)])), (wc_2, .inr (0, [.ref cs_2, .ref cl_2])), (cs_2, .inl (cI, 32, .inl (ai (fun _ => 0)))), (cl_2, .inl (cI, 32, .inl (ai (fun _ => 0)))), (wb_2, .inl (cI, 302, .inl (ai (fun _ => 0))))]) (w1 := [(q_27, .inr (1, [.ref rc_3, .int (nI 0), .int (nI 0), .int (nI 0), .ref rb_3, .int (nI 0), .int (nI 0)])), (rc_3, .inr (0, [.ref rcs_3, .ref rcl_3])), (rcs_3, .inl (cI, 32, .inl (ai (fun _ => 0)))), (rcl_3, .inl (cI, 32, .inl (ai (fun _ => 0)))), (rb_3, .inl (cI, 302, .inl (ai (fun _ => 0))))]) hP hD [9] [0, 1, 2, 3, 4, 5, 6, 7, 8] rfl rfl (by decide) (by decide) hk1 hFc hP1 hD1
  clear hP1 hK1 hD1 hPc hDc hFc hk1 hz1 hvm ht
  have hP : va_P D vwCl [(x, .inr (3, [.ref q_5, .ref q_16, .null])), (q_5, .inr (0, [.ref cs1_1, .ref cl1_1])), (cs1_1, .inl (cI, 32, .inl (ai (fun _ => 0)))), (cl1_1, .inl (cI, 32, .inl (ai (fun _ => 0)))), (q_16, .inr (2, [.ref wc_2, .ref wb_2, .int (nI 0), .int (nI 0), .int (nI 0), .int (nI 0), .int (nI 0), .int (nI 0), .int (nI 0), .int (nI 0), .int (nI 0)])), (wc_2, .inr (0, [.ref cs_2, .ref cl_2])), (cs_2, .inl (cI, 32, .inl (ai (fun _ => 0)))), (cl_2, .inl (cI, 32, .inl (ai (fun _ => 0)))), (wb_2, .inl (cI, 302, .inl (ai (fun _ => 0)))), (q_27, .inr (1, [.ref rc_3, .int (nI 0), .int (nI 0), .int (nI 0), .ref rb_3, .int (nI 0), .int (nI 0)])), (rc_3, .inr (0, [.ref rcs_3, .ref rcl_3])), (rcs_3, .inl (cI, 32, .inl (ai (fun _ => 0)))), (rcl_3, .inl (cI, 32, .inl (ai (fun _ => 0)))), (rb_3, .inl (cI, 302, .inl (ai (fun _ => 0))))] H1 := hP.sub [0, 1, 2, 3, 4, 5, 6, 7, 8, 9, 10, 11, 12, 13] rfl
  have hD : va_D A [(x, .inr (3, [.ref q_5, .ref q_16, .null])), (q_5, .inr (0, [.ref cs1_1, .ref cl1_1])), (cs1_1, .inl (cI, 32, .inl (ai (fun _ => 0)))), (cl1_1, .inl (cI, 32, .inl (ai (fun _ => 0)))), (q_16, .inr (2, [.ref wc_2, .ref wb_2, .int (nI 0), .int (nI 0), .int (nI 0), .int (nI 0), .int (nI 0), .int (nI 0), .int (nI 0), .int (nI 0), .int (nI 0)])), (wc_2, .inr (0, [.ref cs_2, .ref cl_2])), (cs_2, .inl (cI, 32, .inl (ai (fun _ => 0)))), (cl_2, .inl (cI, 32, .inl (ai (fun _ => 0)))), (wb_2, .inl (cI, 302, .inl (ai (fun _ => 0)))), (q_27, .inr (1, [.ref rc_3, .int (nI 0), .int (nI 0), .int (nI 0), .ref rb_3, .int (nI 0), .int (nI 0)])), (rc_3, .inr (0, [.ref rcs_3, .ref rcl_3])), (rcs_3, .inl (cI, 32, .inl (ai (fun _ => 0)))), (rcl_3, .inl (cI, 32, .inl (ai (fun _ => 0)))), (rb_3, .inl (cI, 302, .inl (ai (fun _ => 0))))] := hD.sub [0, 1, 2, 3, 4, 5, 6, 7, 8, 9, 10, 11, 12, 13] (by decide) rfl
  try dsimp only at hw_3
  refine va_putF (D := D) (ci := 3) (v := .ref q_27) (ty := (.object "BinStreams$Reader")) (C := RX3) (T := TX3) (N := 3) hx hb hts iw_k_X3_init_3 tyX3 tyX3_ok nmX3 hown hK hP hD hS 0 rfl rfl 2 (by decide) (hts (.fieldLink RX3 26 "BinStreams" "reader" "LBinStreams$Reader;") (by decide +kernel)) (fun _ h9 => h9) rfl hin rfl (by decide +kernel) rfl rfl (Nat.le_of_ble_eq_true rfl) dX3_init_34 (fun H locs hP hD hS => ?_)
  have hP : va_P D vwCl [(x, .inr (3, [.ref q_5, .ref q_16, .ref q_27])), (q_5, .inr (0, [.ref cs1_1, .ref cl1_1])), (cs1_1, .inl (cI, 32, .inl (ai (fun _ => 0)))), (cl1_1, .inl (cI, 32, .inl (ai (fun _ => 0)))), (q_16, .inr (2, [.ref wc_2, .ref wb_2, .int (nI 0), .int (nI 0), .int (nI 0), .int (nI 0), .int (nI 0), .int (nI 0), .int (nI 0), .int (nI 0), .int (nI 0)])), (wc_2, .inr (0, [.ref cs_2, .ref cl_2])), (cs_2, .inl (cI, 32, .inl (ai (fun _ => 0)))), (cl_2, .inl (cI, 32, .inl (ai (fun _ => 0)))), (wb_2, .inl (cI, 302, .inl (ai (fun _ => 0)))), (q_27, .inr (1, [.ref rc_3, .int (nI 0), .int (nI 0), .int (nI 0), .ref rb_3, .int (nI 0), .int (nI 0)])), (rc_3, .inr (0, [.ref rcs_3, .ref rcl_3])), (rcs_3, .inl (cI, 32, .inl (ai (fun _ => 0)))), (rcl_3, .inl (cI, 32, .inl (ai (fun _ => 0)))), (rb_3, .inl (cI, 302, .inl (ai (fun _ => 0))))] H := hP
  have hD : va_D A [(x, .inr (3, [.ref q_5, .ref q_16, .ref q_27])), (q_5, .inr (0, [.ref cs1_1, .ref cl1_1])), (cs1_1, .inl (cI, 32, .inl (ai (fun _ => 0)))), (cl1_1, .inl (cI, 32, .inl (ai (fun _ => 0)))), (q_16, .inr (2, [.ref wc_2, .ref wb_2, .int (nI 0), .int (nI 0), .int (nI 0), .int (nI 0), .int (nI 0), .int (nI 0), .int (nI 0), .int (nI 0), .int (nI 0)])), (wc_2, .inr (0, [.ref cs_2, .ref cl_2])), (cs_2, .inl (cI, 32, .inl (ai (fun _ => 0)))), (cl_2, .inl (cI, 32, .inl (ai (fun _ => 0)))), (wb_2, .inl (cI, 302, .inl (ai (fun _ => 0)))), (q_27, .inr (1, [.ref rc_3, .int (nI 0), .int (nI 0), .int (nI 0), .ref rb_3, .int (nI 0), .int (nI 0)])), (rc_3, .inr (0, [.ref rcs_3, .ref rcl_3])), (rcs_3, .inl (cI, 32, .inl (ai (fun _ => 0)))), (rcl_3, .inl (cI, 32, .inl (ai (fun _ => 0)))), (rb_3, .inl (cI, 302, .inl (ai (fun _ => 0))))] := hD
  exact W.vret hx hb hr (fun t ht hW => ⟨⟨(q_5, cs1_1, cl1_1, q_16, wc_2, cs_2, cl_2, wb_2, q_27, rc_3, rcs_3, rcl_3, rb_3), rfl, trivial, by rw [ht]; exact hP, va_K.moved hW.alike hK, hD⟩, hS.F ht⟩) hS.2.2 dX3_init_37
