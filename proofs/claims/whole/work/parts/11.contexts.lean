theorem iw_k_X0_unlikelyPart_0 : ∀ w ∈ u_ws RX0 TX0 2, w ∈ wsX0_unlikelyPart := by decide +kernel
set_option maxHeartbeats 1000000 in
set_option maxRecDepth 100000 in
/-- the part of the unlikely bin -/
theorem k_X0_unlikelyPart (l : Launch) (D : va_G) (cI : ClassId) (ep : EP) (cc cs cl : Nat) (sz : Nat) (ct : Nat) (rg : Nat) (S : Nat → Nat) (L : Nat → Nat) (hc : ct < 32) (hS : S ct < 63) (hrg : rg < 2147483648) : Met l yX0_unlikelyPart wsX0_unlikelyPart ({ frames := 0, cells := 0, slots := 0, locals := 0 }) (kP D (some ep) [.ref cc, .int (nI ct), .int (nI rg)] [(cI, .int)] [(cc, .inr (0, [.ref cs, .ref cl])), (cs, .inl (cI, 32, .inl (ai S))), (cl, .inl (cI, 32, .inl (ai L)))] sz) (va_Qi (fun (r : Int32) (u : Unit) => match u with | () => r = nI (Rt (4 * S ct + rg / 64 % 4))) (fun u t => match u with | () => kB D [(cI, .int)] (va_A [(cc, .inr (0, [.ref cs, .ref cl])), (cs, .inl (cI, 32, .inl (ai S))), (cl, .inl (cI, 32, .inl (ai L)))] sz) [(cc, .inr (0, [.ref cs, .ref cl])), (cs, .inl (cI, 32, .inl (ai S))), (cl, .inl (cI, 32, .inl (ai L)))] t) (va_A [(cc, .inr (0, [.ref cs, .ref cl])), (cs, .inl (cI, 32, .inl (ai S))), (cl, .inl (cI, 32, .inl (ai L)))] sz)) 0 0 (va_A [(cc, .inr (0, [.ref cs, .ref cl])), (cs, .inl (cI, 32, .inl (ai S))), (cl, .inl (cI, 32, .inl (ai L)))] sz) := by
  refine Met.ofW (cc := cX0_unlikelyPart) (maxL := 3) (ret := (some .int)) (by decide) rfl ?_
  intro p e s m args below meth c s₁ B hml hv
  obtain ⟨rfl, hsz, hP, hK, hD0, hev⟩ := hv
  have hx := B.exec
  have hb := B.bytes
  have hr := B.returns
  have hts := atoms_spec (ws := wsX0_unlikelyPart) B.pre
  have hown : s.vm.findClass RX0 = some m.cls := findClass_of_methodNamed B.named
  have hlocks := B.notSynchronized
  subst hsz
  have hD := hD0.self (sz := s.heap.size)
  clear hD0
  generalize hAe : va_A [(cc, .inr (0, [.ref cs, .ref cl])), (cs, .inl (cI, 32, .inl (ai S))), (cl, .inl (cI, 32, .inl (ai L)))] s.heap.size = A at hD hev ⊢
  have hev1 : ev ep A s s.heap := hev
  obtain ⟨⟨hZR, hTR, hZT, hTT⟩, hNR, hNT, hNC1, hNC2⟩ := hev1
  have hA : ∀ q : Nat, s.heap.size ≤ q → A q := fun q h => by rw [← hAe]; exact Or.inr h
  clear hAe
  have hS : va_S A s.heap s.heap [] := va_S.rf
  have hl := lv_entry ([.ref cc, .int (nI ct), .int (nI rg)]) (n := 3) (Nat.le_of_ble_eq_true rfl)
  rw [lg_entry_eq]
  generalize (lg_sl ([.ref cc, .int (nI ct), .int (nI rg)]) ++ List.replicate (3 - (lg_sl ([.ref cc, .int (nI ct), .int (nI rg)])).length) Slot.unset).toArray = ls at hl ⊢
  have hl : lv_has ls 3 [(0, .ref cc), (1, .int (nI ct)), (2, .int (nI rg))] := hl
  refine va_getsN (C := "BinStreams") (n := "R") (d := "[I") (v := .ref ep.1) hx hb hZR hS hown (va_Nw.use rfl hNR) (fun _ h9 => h9) dX0_unlikelyPart_0 ?_
  refine lv_iconst (v := nI 4) hx hb dX0_unlikelyPart_3 (by decide) ?_
  refine lv_aload_n hx hb dX0_unlikelyPart_4 rfl (lv_at hl 0 rfl) ?_
  refine va_get (D := D) (ci := 0) (v := .ref cs) (C := RX0) (T := TX0) (N := 2) hx hb hts iw_k_X0_unlikelyPart_0 hown hK hP 0 rfl rfl 0 (by decide) (hts (.fieldLink RX0 9 "BinStreams$Contexts" "states" "[I") (by decide +kernel)) (fun _ h9 => h9) rfl dX0_unlikelyPart_5 ?_
  refine lv_iload_n hx hb dX0_unlikelyPart_8 rfl (lv_at hl 1 rfl) ?_
  refine wk_iald hx hb hK hP 1 0 rfl rfl (by omega) (by decide) dX0_unlikelyPart_9 ?_
  refine wk_imul hx hb dX0_unlikelyPart_10 ?_
  refine lv_iload_n hx hb dX0_unlikelyPart_11 rfl (lv_at hl 2 rfl) ?_
  refine lv_bipush (v := nI 64) hx hb dX0_unlikelyPart_12 (by decide) ?_
  refine wk_idiv hx hb dX0_unlikelyPart_14 (by omega) (by omega) (by omega) ?_
  refine lv_iconst (v := nI 4) hx hb dX0_unlikelyPart_15 (by decide) ?_
  refine wk_irem hx hb dX0_unlikelyPart_16 (by omega) (by omega) (by omega) ?_
  refine wk_iadd hx hb dX0_unlikelyPart_17 ?_
  refine va_ti (v := .int (nI (Rt ((4 * (S ct)) + ((rg / 64) % 4))))) hx hb hTR hS (vp_in_nI (show ((4 * (S ct)) + ((rg / 64) % 4)) < 252 by omega) (by decide)) (by rw [nI_clamp (show ((4 * (S ct)) + ((rg / 64) % 4)) < 2 ^ 31 by omega)]) dX0_unlikelyPart_18 ?_
  exact W.iret (v := nI (Rt ((4 * (S ct)) + ((rg / 64) % 4)))) hx hb hr (fun t ht hW => ⟨⟨nI (Rt ((4 * (S ct)) + ((rg / 64) % 4))), (), rfl, rfl, by rw [ht]; exact hP, va_K.moved hW.alike hK, hD⟩, hS.F ht⟩) hS.2.2 dX0_unlikelyPart_19

theorem iw_k_X0_learn_0 : ∀ w ∈ u_ws RX0 TX0 2, w ∈ wsX0_learn := by decide +kernel
set_option maxHeartbeats 1000000 in
set_option maxRecDepth 100000 in
/-- a context learns -/
theorem k_X0_learn (l : Launch) (D : va_G) (cI : ClassId) (ep : EP) (cc cs cl : Nat) (sz : Nat) (ct : Nat) (b : Nat) (S : Nat → Nat) (L : Nat → Nat) (hc : ct < 32) (hb2 : b < 2) (hS : S ct < 63) (hL : L ct < 2) : Met l yX0_learn wsX0_learn ({ frames := 1, cells := 0, slots := 0, locals := 16 }) (kP D (some ep) [.ref cc, .int (nI ct), .int (nI b)] [(cI, .int)] [(cc, .inr (0, [.ref cs, .ref cl])), (cs, .inl (cI, 32, .inl (ai S))), (cl, .inl (cI, 32, .inl (ai L)))] sz) (va_Qv (fun (u : Unit) => match u with | () => True) (fun u t => match u with | () => kB D [(cI, .int)] (va_A [(cc, .inr (0, [.ref cs, .ref cl])), (cs, .inl (cI, 32, .inl (ai S))), (cl, .inl (cI, 32, .inl (ai L)))] sz) [(cc, .inr (0, [.ref cs, .ref cl])), (cs, .inl (cI, 32, .inl (ai (lS S L ct b)))), (cl, .inl (cI, 32, .inl (ai (lL S L ct b))))] t) (va_A [(cc, .inr (0, [.ref cs, .ref cl])), (cs, .inl (cI, 32, .inl (ai S))), (cl, .inl (cI, 32, .inl (ai L)))] sz)) 0 0 (va_A [(cc, .inr (0, [.ref cs, .ref cl])), (cs, .inl (cI, 32, .inl (ai S))), (cl, .inl (cI, 32, .inl (ai L)))] sz) := by
  refine Met.ofW (cc := cX0_learn) (maxL := 4) (ret := none) (by decide) rfl ?_
  intro p e s m args below meth c s₁ B hml hv
  obtain ⟨rfl, hsz, hP, hK, hD0, hev⟩ := hv
  have hx := B.exec
  have hb := B.bytes
  have hr := B.returns
  have hts := atoms_spec (ws := wsX0_learn) B.pre
  have hown : s.vm.findClass RX0 = some m.cls := findClass_of_methodNamed B.named
  have hlocks := B.notSynchronized
  subst hsz
  have hD := hD0.self (sz := s.heap.size)
  clear hD0
  generalize hAe : va_A [(cc, .inr (0, [.ref cs, .ref cl])), (cs, .inl (cI, 32, .inl (ai S))), (cl, .inl (cI, 32, .inl (ai L)))] s.heap.size = A at hD hev ⊢
  have hev1 : ev ep A s s.heap := hev
  obtain ⟨⟨hZR, hTR, hZT, hTT⟩, hNR, hNT, hNC1, hNC2⟩ := hev1
  have hA : ∀ q : Nat, s.heap.size ≤ q → A q := fun q h => by rw [← hAe]; exact Or.inr h
  clear hAe
  have hS : va_S A s.heap s.heap [] := va_S.rf
  have hl := lv_entry ([.ref cc, .int (nI ct), .int (nI b)]) (n := 4) (Nat.le_of_ble_eq_true rfl)
  rw [lg_entry_eq]
  generalize (lg_sl ([.ref cc, .int (nI ct), .int (nI b)]) ++ List.replicate (4 - (lg_sl ([.ref cc, .int (nI ct), .int (nI b)])).length) Slot.unset).toArray = ls at hl ⊢
  have hl : lv_has ls 4 [(0, .ref cc), (1, .int (nI ct)), (2, .int (nI b))] := hl
  refine lv_aload_n hx hb dX0_learn_0 rfl (lv_at hl 0 rfl) ?_
  refine va_get (D := D) (ci := 0) (v := .ref cs) (C := RX0) (T := TX0) (N := 2) hx hb hts iw_k_X0_learn_0 hown hK hP 0 rfl rfl 0 (by decide) (hts (.fieldLink RX0 9 "BinStreams$Contexts" "states" "[I") (by decide +kernel)) (fun _ h9 => h9) rfl dX0_learn_1 ?_
  refine lv_iload_n hx hb dX0_learn_4 rfl (lv_at hl 1 rfl) ?_
  refine wk_iald hx hb hK hP 1 0 rfl rfl (by omega) (by decide) dX0_learn_5 ?_
  refine lv_istore_n (lv' := [(3, .int (nI (S ct))), (0, .ref cc), (1, .int (nI ct)), (2, .int (nI b))]) hx hb dX0_learn_6 rfl hl (by decide) rfl (fun ls hl => ?_)
  refine lv_iload_n hx hb dX0_learn_7 rfl (lv_at hl 3 rfl) ?_
  refine lv_aload_n hx hb dX0_learn_8 rfl (lv_at hl 1 rfl) ?_
  refine va_get (D := D) (ci := 0) (v := .ref cl) (C := RX0) (T := TX0) (N := 2) hx hb hts iw_k_X0_learn_0 hown hK hP 0 rfl rfl 1 (by decide) (hts (.fieldLink RX0 15 "BinStreams$Contexts" "likely" "[I") (by decide +kernel)) (fun _ h9 => h9) rfl dX0_learn_9 ?_
  refine lv_iload_n hx hb dX0_learn_12 rfl (lv_at hl 2 rfl) ?_
  refine wk_iald hx hb hK hP 2 0 rfl rfl (by omega) (by decide) dX0_learn_13 ?_
  refine wk_ne (tgt := 32) hx hb dX0_learn_14 (by decide) (by omega) (by omega) (fun c_14 => ?_) (fun c_14 => ?_)
  · refine lv_iload_n hx hb dX0_learn_32 rfl (lv_at hl 0 rfl) ?_
    refine wk_if_ne (tgt := 50) hx hb dX0_learn_33 (by decide) (by omega) (fun c_33 => ?_) (fun c_33 => ?_)
    · refine lv_aload_n hx hb dX0_learn_50 rfl (lv_at hl 1 rfl) ?_
      refine va_get (D := D) (ci := 0) (v := .ref cs) (C := RX0) (T := TX0) (N := 2) hx hb hts iw_k_X0_learn_0 hown hK hP 0 rfl rfl 0 (by decide) (hts (.fieldLink RX0 9 "BinStreams$Contexts" "states" "[I") (by decide +kernel)) (fun _ h9 => h9) rfl dX0_learn_51 ?_
      refine lv_iload_n hx hb dX0_learn_54 rfl (lv_at hl 2 rfl) ?_
      refine va_getsN (C := "BinStreams") (n := "T") (d := "[I") (v := .ref ep.2.1) hx hb hZT hS hown (va_Nw.use rfl hNT) (fun _ h9 => h9) dX0_learn_55 ?_
      refine lv_iload_n hx hb dX0_learn_58 rfl (lv_at hl 0 rfl) ?_
      refine va_ti (v := .int (nI (Tt (S ct)))) hx hb hTT hS (vp_in_nI (show (S ct) < 63 by omega) (by decide)) (by rw [nI_clamp (show (S ct) < 2 ^ 31 by omega)]) dX0_learn_59 ?_
      refine wk_iast hx hb hK hP hD hS 1 0 rfl rfl (by omega) (by decide) dX0_learn_60 (fun H locs hP hD hS => ?_)
      have hP : va_P D vwCl [(cc, .inr (0, [.ref cs, .ref cl])), (cs, .inl (cI, 32, .inl (ai (nu S ct (Tt (S ct)))))), (cl, .inl (cI, 32, .inl (ai L)))] H := hP
      have hD : va_D A [(cc, .inr (0, [.ref cs, .ref cl])), (cs, .inl (cI, 32, .inl (ai (nu S ct (Tt (S ct)))))), (cl, .inl (cI, 32, .inl (ai L)))] := hD
      have he_1 : (nu S ct (Tt (S ct))) = (lS S L ct b) := by unfold lS; rw [if_neg (by omega)]
      have hP : va_P D vwCl [(cc, .inr (0, [.ref cs, .ref cl])), (cs, .inl (cI, 32, .inl (ai (lS S L ct b)))), (cl, .inl (cI, 32, .inl (ai L)))] H := (congrArg (fun z9 : Nat → Nat => va_P D vwCl [(cc, .inr (0, [.ref cs, .ref cl])), (cs, .inl (cI, 32, .inl (ai z9))), (cl, .inl (cI, 32, .inl (ai L)))] H) he_1).mp hP
      have hD : va_D A [(cc, .inr (0, [.ref cs, .ref cl])), (cs, .inl (cI, 32, .inl (ai (lS S L ct b)))), (cl, .inl (cI, 32, .inl (ai L)))] := (congrArg (fun z9 : Nat → Nat => va_D A [(cc, .inr (0, [.ref cs, .ref cl])), (cs, .inl (cI, 32, .inl (ai z9))), (cl, .inl (cI, 32, .inl (ai L)))]) he_1).mp hD
      have he_2 : (L) = (lL S L ct b) := by unfold lL; rw [if_neg (by omega)]
      have hP : va_P D vwCl [(cc, .inr (0, [.ref cs, .ref cl])), (cs, .inl (cI, 32, .inl (ai (lS S L ct b)))), (cl, .inl (cI, 32, .inl (ai (lL S L ct b))))] H := (congrArg (fun z9 : Nat → Nat => va_P D vwCl [(cc, .inr (0, [.ref cs, .ref cl])), (cs, .inl (cI, 32, .inl (ai (lS S L ct b)))), (cl, .inl (cI, 32, .inl (ai z9)))] H) he_2).mp hP
      have hD : va_D A [(cc, .inr (0, [.ref cs, .ref cl])), (cs, .inl (cI, 32, .inl (ai (lS S L ct b)))), (cl, .inl (cI, 32, .inl (ai (lL S L ct b))))] := (congrArg (fun z9 : Nat → Nat => va_D A [(cc, .inr (0, [.ref cs, .ref cl])), (cs, .inl (cI, 32, .inl (ai (lS S L ct b)))), (cl, .inl (cI, 32, .inl (ai z9)))]) he_2).mp hD
      exact W.vret hx hb hr (fun t ht hW => ⟨⟨(), rfl, trivial, by rw [ht]; exact hP, va_K.moved hW.alike hK, hD⟩, hS.F ht⟩) hS.2.2 dX0_learn_61
    · refine lv_aload_n hx hb dX0_learn_36 rfl (lv_at hl 1 rfl) ?_
      refine va_get (D := D) (ci := 0) (v := .ref cl) (C := RX0) (T := TX0) (N := 2) hx hb hts iw_k_X0_learn_0 hown hK hP 0 rfl rfl 1 (by decide) (hts (.fieldLink RX0 15 "BinStreams$Contexts" "likely" "[I") (by decide +kernel)) (fun _ h9 => h9) rfl dX0_learn_37 ?_
      refine lv_iload_n hx hb dX0_learn_40 rfl (lv_at hl 2 rfl) ?_
      refine lv_iconst (v := nI 1) hx hb dX0_learn_41 (by decide) ?_
      refine lv_aload_n hx hb dX0_learn_42 rfl (lv_at hl 1 rfl) ?_
      refine va_get (D := D) (ci := 0) (v := .ref cl) (C := RX0) (T := TX0) (N := 2) hx hb hts iw_k_X0_learn_0 hown hK hP 0 rfl rfl 1 (by decide) (hts (.fieldLink RX0 15 "BinStreams$Contexts" "likely" "[I") (by decide +kernel)) (fun _ h9 => h9) rfl dX0_learn_43 ?_
      refine lv_iload_n hx hb dX0_learn_46 rfl (lv_at hl 2 rfl) ?_
      refine wk_iald hx hb hK hP 2 0 rfl rfl (by omega) (by decide) dX0_learn_47 ?_
      refine wk_isub hx hb dX0_learn_48 (by omega) ?_
      refine wk_iast hx hb hK hP hD hS 2 0 rfl rfl (by omega) (by decide) dX0_learn_49 (fun H locs hP hD hS => ?_)
      have hP : va_P D vwCl [(cc, .inr (0, [.ref cs, .ref cl])), (cs, .inl (cI, 32, .inl (ai S))), (cl, .inl (cI, 32, .inl (ai (nu L ct (1 - (L ct))))))] H := hP
      have hD : va_D A [(cc, .inr (0, [.ref cs, .ref cl])), (cs, .inl (cI, 32, .inl (ai S))), (cl, .inl (cI, 32, .inl (ai (nu L ct (1 - (L ct))))))] := hD
      refine lv_aload_n hx hb dX0_learn_50 rfl (lv_at hl 1 rfl) ?_
      refine va_get (D := D) (ci := 0) (v := .ref cs) (C := RX0) (T := TX0) (N := 2) hx hb hts iw_k_X0_learn_0 hown hK hP 0 rfl rfl 0 (by decide) (hts (.fieldLink RX0 9 "BinStreams$Contexts" "states" "[I") (by decide +kernel)) (fun _ h9 => h9) rfl dX0_learn_51 ?_
      refine lv_iload_n hx hb dX0_learn_54 rfl (lv_at hl 2 rfl) ?_
      refine va_getsN (C := "BinStreams") (n := "T") (d := "[I") (v := .ref ep.2.1) hx hb hZT hS hown (va_Nw.use rfl hNT) (fun _ h9 => h9) dX0_learn_55 ?_
      refine lv_iload_n hx hb dX0_learn_58 rfl (lv_at hl 0 rfl) ?_
      refine va_ti (v := .int (nI (Tt (S ct)))) hx hb hTT hS (vp_in_nI (show (S ct) < 63 by omega) (by decide)) (by rw [nI_clamp (show (S ct) < 2 ^ 31 by omega)]) dX0_learn_59 ?_
      refine wk_iast hx hb hK hP hD hS 1 0 rfl rfl (by omega) (by decide) dX0_learn_60 (fun H locs hP hD hS => ?_)
      have hP : va_P D vwCl [(cc, .inr (0, [.ref cs, .ref cl])), (cs, .inl (cI, 32, .inl (ai (nu S ct (Tt (S ct)))))), (cl, .inl (cI, 32, .inl (ai (nu L ct (1 - (L ct))))))] H := hP
      have hD : va_D A [(cc, .inr (0, [.ref cs, .ref cl])), (cs, .inl (cI, 32, .inl (ai (nu S ct (Tt (S ct)))))), (cl, .inl (cI, 32, .inl (ai (nu L ct (1 - (L ct))))))] := hD
      have he_3 : (nu S ct (Tt (S ct))) = (lS S L ct b) := by unfold lS; rw [if_neg (by omega)]
      have hP : va_P D vwCl [(cc, .inr (0, [.ref cs, .ref cl])), (cs, .inl (cI, 32, .inl (ai (lS S L ct b)))), (cl, .inl (cI, 32, .inl (ai (nu L ct (1 - (L ct))))))] H := (congrArg (fun z9 : Nat → Nat => va_P D vwCl [(cc, .inr (0, [.ref cs, .ref cl])), (cs, .inl (cI, 32, .inl (ai z9))), (cl, .inl (cI, 32, .inl (ai (nu L ct (1 - (L ct))))))] H) he_3).mp hP
      have hD : va_D A [(cc, .inr (0, [.ref cs, .ref cl])), (cs, .inl (cI, 32, .inl (ai (lS S L ct b)))), (cl, .inl (cI, 32, .inl (ai (nu L ct (1 - (L ct))))))] := (congrArg (fun z9 : Nat → Nat => va_D A [(cc, .inr (0, [.ref cs, .ref cl])), (cs, .inl (cI, 32, .inl (ai z9))), (cl, .inl (cI, 32, .inl (ai (nu L ct (1 - (L ct))))))]) he_3).mp hD
      have he_4 : (nu L ct (1 - (L ct))) = (lL S L ct b) := by unfold lL; rw [if_pos (by omega)]
      have hP : va_P D vwCl [(cc, .inr (0, [.ref cs, .ref cl])), (cs, .inl (cI, 32, .inl (ai (lS S L ct b)))), (cl, .inl (cI, 32, .inl (ai (lL S L ct b))))] H := (congrArg (fun z9 : Nat → Nat => va_P D vwCl [(cc, .inr (0, [.ref cs, .ref cl])), (cs, .inl (cI, 32, .inl (ai (lS S L ct b)))), (cl, .inl (cI, 32, .inl (ai z9)))] H) he_4).mp hP
      have hD : va_D A [(cc, .inr (0, [.ref cs, .ref cl])), (cs, .inl (cI, 32, .inl (ai (lS S L ct b)))), (cl, .inl (cI, 32, .inl (ai (lL S L ct b))))] := (congrArg (fun z9 : Nat → Nat => va_D A [(cc, .inr (0, [.ref cs, .ref cl])), (cs, .inl (cI, 32, .inl (ai (lS S L ct b)))), (cl, .inl (cI, 32, .inl (ai z9)))]) he_4).mp hD
      exact W.vret hx hb hr (fun t ht hW => ⟨⟨(), rfl, trivial, by rw [ht]; exact hP, va_K.moved hW.alike hK, hD⟩, hS.F ht⟩) hS.2.2 dX0_learn_61
  · refine lv_aload_n hx hb dX0_learn_17 rfl (lv_at hl 1 rfl) ?_
    refine va_get (D := D) (ci := 0) (v := .ref cs) (C := RX0) (T := TX0) (N := 2) hx hb hts iw_k_X0_learn_0 hown hK hP 0 rfl rfl 0 (by decide) (hts (.fieldLink RX0 9 "BinStreams$Contexts" "states" "[I") (by decide +kernel)) (fun _ h9 => h9) rfl dX0_learn_18 ?_
    refine lv_iload_n hx hb dX0_learn_21 rfl (lv_at hl 2 rfl) ?_
    refine lv_iload_n hx hb dX0_learn_22 rfl (lv_at hl 0 rfl) ?_
    refine lv_iconst (v := nI 1) hx hb dX0_learn_23 (by decide) ?_
    refine wk_iadd hx hb dX0_learn_24 ?_
    refine lv_bipush (v := nI 62) hx hb dX0_learn_25 (by decide) ?_
    refine wk_mmin hx hb (hml.trans hl.1.symm) hown (hts (.methodLink RX0 27 Lib.Math.min.name) (by decide +kernel)) (hts (.static Lib.Math.min.name) (by decide +kernel)) (hts (.initialized "java/lang/Math") (by decide +kernel)) (hts (.code Lib.Math.min.name Lib.Math.min.code 2 (some .int)) (by decide +kernel)) (Nat.le_of_ble_eq_true rfl) (Nat.le_of_ble_eq_true rfl) (Nat.le_of_ble_eq_true rfl) (Nat.le_of_ble_eq_true rfl) (by omega) (by omega) dX0_learn_27 ?_
    refine wk_iast hx hb hK hP hD hS 1 0 rfl rfl (by omega) (by decide) dX0_learn_30 (fun H locs hP hD hS => ?_)
    have hP : va_P D vwCl [(cc, .inr (0, [.ref cs, .ref cl])), (cs, .inl (cI, 32, .inl (ai (nu S ct (min ((S ct) + 1) 62))))), (cl, .inl (cI, 32, .inl (ai L)))] H := hP
    have hD : va_D A [(cc, .inr (0, [.ref cs, .ref cl])), (cs, .inl (cI, 32, .inl (ai (nu S ct (min ((S ct) + 1) 62))))), (cl, .inl (cI, 32, .inl (ai L)))] := hD
    have he_5 : (nu S ct (min ((S ct) + 1) 62)) = (lS S L ct b) := by unfold lS; rw [if_pos (by omega)]
    have hP : va_P D vwCl [(cc, .inr (0, [.ref cs, .ref cl])), (cs, .inl (cI, 32, .inl (ai (lS S L ct b)))), (cl, .inl (cI, 32, .inl (ai L)))] H := (congrArg (fun z9 : Nat → Nat => va_P D vwCl [(cc, .inr (0, [.ref cs, .ref cl])), (cs, .inl (cI, 32, .inl (ai z9))), (cl, .inl (cI, 32, .inl (ai L)))] H) he_5).mp hP
    have hD : va_D A [(cc, .inr (0, [.ref cs, .ref cl])), (cs, .inl (cI, 32, .inl (ai (lS S L ct b)))), (cl, .inl (cI, 32, .inl (ai L)))] := (congrArg (fun z9 : Nat → Nat => va_D A [(cc, .inr (0, [.ref cs, .ref cl])), (cs, .inl (cI, 32, .inl (ai z9))), (cl, .inl (cI, 32, .inl (ai L)))]) he_5).mp hD
    have he_6 : (L) = (lL S L ct b) := by unfold lL; rw [if_neg (by omega)]
    have hP : va_P D vwCl [(cc, .inr (0, [.ref cs, .ref cl])), (cs, .inl (cI, 32, .inl (ai (lS S L ct b)))), (cl, .inl (cI, 32, .inl (ai (lL S L ct b))))] H := (congrArg (fun z9 : Nat → Nat => va_P D vwCl [(cc, .inr (0, [.ref cs, .ref cl])), (cs, .inl (cI, 32, .inl (ai (lS S L ct b)))), (cl, .inl (cI, 32, .inl (ai z9)))] H) he_6).mp hP
    have hD : va_D A [(cc, .inr (0, [.ref cs, .ref cl])), (cs, .inl (cI, 32, .inl (ai (lS S L ct b)))), (cl, .inl (cI, 32, .inl (ai (lL S L ct b))))] := (congrArg (fun z9 : Nat → Nat => va_D A [(cc, .inr (0, [.ref cs, .ref cl])), (cs, .inl (cI, 32, .inl (ai (lS S L ct b)))), (cl, .inl (cI, 32, .inl (ai z9)))]) he_6).mp hD
    exact W.vret hx hb hr (fun t ht hW => ⟨⟨(), rfl, trivial, by rw [ht]; exact hP, va_K.moved hW.alike hK, hD⟩, hS.F ht⟩) hS.2.2 dX0_learn_31

theorem iw_k_X0_become_0 : ∀ w ∈ u_ws RX0 TX0 2, w ∈ wsX0_become := by decide +kernel
set_option maxHeartbeats 1000000 in
set_option maxRecDepth 100000 in
/-- these contexts become those -/
theorem k_X0_become (l : Launch) (D : va_G) (cI : ClassId) (cc cs cl co os ol : Nat) (sz : Nat) (S : Nat → Nat) (L : Nat → Nat) (S0 : Nat → Nat) (L0 : Nat → Nat) : Met l yX0_become wsX0_become ({ frames := 1, cells := 0, slots := 0, locals := 60 }) (kP D none [.ref cc, .ref co] [(cI, .int)] [(cc, .inr (0, [.ref cs, .ref cl])), (cs, .inl (cI, 32, .inl (ai S))), (cl, .inl (cI, 32, .inl (ai L))), (co, .inr (0, [.ref os, .ref ol])), (os, .inl (cI, 32, .inl (ai S0))), (ol, .inl (cI, 32, .inl (ai L0)))] sz) (va_Qv (fun (u : Unit) => match u with | () => True) (fun u t => match u with | () => kB D [(cI, .int)] (va_A [(cc, .inr (0, [.ref cs, .ref cl])), (cs, .inl (cI, 32, .inl (ai S))), (cl, .inl (cI, 32, .inl (ai L))), (co, .inr (0, [.ref os, .ref ol])), (os, .inl (cI, 32, .inl (ai S0))), (ol, .inl (cI, 32, .inl (ai L0)))] sz) [(cc, .inr (0, [.ref cs, .ref cl])), (cs, .inl (cI, 32, .inl (ai S0))), (cl, .inl (cI, 32, .inl (ai L0))), (co, .inr (0, [.ref os, .ref ol])), (os, .inl (cI, 32, .inl (ai S0))), (ol, .inl (cI, 32, .inl (ai L0)))] t) (va_A [(cc, .inr (0, [.ref cs, .ref cl])), (cs, .inl (cI, 32, .inl (ai S))), (cl, .inl (cI, 32, .inl (ai L))), (co, .inr (0, [.ref os, .ref ol])), (os, .inl (cI, 32, .inl (ai S0))), (ol, .inl (cI, 32, .inl (ai L0)))] sz)) 0 0 (va_A [(cc, .inr (0, [.ref cs, .ref cl])), (cs, .inl (cI, 32, .inl (ai S))), (cl, .inl (cI, 32, .inl (ai L))), (co, .inr (0, [.ref os, .ref ol])), (os, .inl (cI, 32, .inl (ai S0))), (ol, .inl (cI, 32, .inl (ai L0)))] sz) := by
  refine Met.ofW (cc := cX0_become) (maxL := 2) (ret := none) (by decide) rfl ?_
  intro p e s m args below meth c s₁ B hml hv
  obtain ⟨rfl, hsz, hP, hK, hD0, hev⟩ := hv
  have hx := B.exec
  have hb := B.bytes
  have hr := B.returns
  have hts := atoms_spec (ws := wsX0_become) B.pre
  have hown : s.vm.findClass RX0 = some m.cls := findClass_of_methodNamed B.named
  have hlocks := B.notSynchronized
  subst hsz
  have hD := hD0.self (sz := s.heap.size)
  clear hD0
  generalize hAe : va_A [(cc, .inr (0, [.ref cs, .ref cl])), (cs, .inl (cI, 32, .inl (ai S))), (cl, .inl (cI, 32, .inl (ai L))), (co, .inr (0, [.ref os, .ref ol])), (os, .inl (cI, 32, .inl (ai S0))), (ol, .inl (cI, 32, .inl (ai L0)))] s.heap.size = A at hD hev ⊢
  have hA : ∀ q : Nat, s.heap.size ≤ q → A q := fun q h => by rw [← hAe]; exact Or.inr h
  clear hAe
  have hS : va_S A s.heap s.heap [] := va_S.rf
  have hl := lv_entry ([.ref cc, .ref co]) (n := 2) (Nat.le_of_ble_eq_true rfl)
  rw [lg_entry_eq]
  generalize (lg_sl ([.ref cc, .ref co]) ++ List.replicate (2 - (lg_sl ([.ref cc, .ref co])).length) Slot.unset).toArray = ls at hl ⊢
  have hl : lv_has ls 2 [(0, .ref cc), (1, .ref co)] := hl
  refine lv_aload_n hx hb dX0_become_0 rfl (lv_at hl 1 rfl) ?_
  refine va_get (D := D) (ci := 0) (v := .ref os) (C := RX0) (T := TX0) (N := 2) hx hb hts iw_k_X0_become_0 hown hK hP 3 rfl rfl 0 (by decide) (hts (.fieldLink RX0 9 "BinStreams$Contexts" "states" "[I") (by decide +kernel)) (fun _ h9 => h9) rfl dX0_become_1 ?_
  refine lv_iconst (v := nI 0) hx hb dX0_become_4 (by decide) ?_
  refine lv_aload_n hx hb dX0_become_5 rfl (lv_at hl 0 rfl) ?_
  refine va_get (D := D) (ci := 0) (v := .ref cs) (C := RX0) (T := TX0) (N := 2) hx hb hts iw_k_X0_become_0 hown hK hP 0 rfl rfl 0 (by decide) (hts (.fieldLink RX0 9 "BinStreams$Contexts" "states" "[I") (by decide +kernel)) (fun _ h9 => h9) rfl dX0_become_6 ?_
  refine lv_iconst (v := nI 0) hx hb dX0_become_9 (by decide) ?_
  refine lv_bipush (v := nI 32) hx hb dX0_become_10 (by decide) ?_
  refine wk_copy hx hb (hml.trans hl.1.symm) hown (hts (.methodLink RX0 18 arraycopyName) (by decide +kernel)) (hts (.native arraycopyName) (by decide +kernel)) (hts (.static arraycopyName) (by decide +kernel)) (hts (.initialized "java/lang/System") (by decide +kernel)) hK hP hD hS 4 1 0 0 rfl rfl rfl rfl (by omega) (by omega) (by decide) (by decide) (Nat.le_of_ble_eq_true rfl) (Nat.le_of_ble_eq_true rfl) dX0_become_12 (fun H locs hP hD hS => ?_)
  have hP : va_P D vwCl [(cc, .inr (0, [.ref cs, .ref cl])), (cs, .inl (cI, 32, .inl (ai (ncpy S0 S 0 0 32)))), (cl, .inl (cI, 32, .inl (ai L))), (co, .inr (0, [.ref os, .ref ol])), (os, .inl (cI, 32, .inl (ai S0))), (ol, .inl (cI, 32, .inl (ai L0)))] H := hP
  have hD : va_D A [(cc, .inr (0, [.ref cs, .ref cl])), (cs, .inl (cI, 32, .inl (ai (ncpy S0 S 0 0 32)))), (cl, .inl (cI, 32, .inl (ai L))), (co, .inr (0, [.ref os, .ref ol])), (os, .inl (cI, 32, .inl (ai S0))), (ol, .inl (cI, 32, .inl (ai L0)))] := hD
  refine lv_aload_n hx hb dX0_become_15 rfl (lv_at hl 1 rfl) ?_
  refine va_get (D := D) (ci := 0) (v := .ref ol) (C := RX0) (T := TX0) (N := 2) hx hb hts iw_k_X0_become_0 hown hK hP 3 rfl rfl 1 (by decide) (hts (.fieldLink RX0 15 "BinStreams$Contexts" "likely" "[I") (by decide +kernel)) (fun _ h9 => h9) rfl dX0_become_16 ?_
  refine lv_iconst (v := nI 0) hx hb dX0_become_19 (by decide) ?_
  refine lv_aload_n hx hb dX0_become_20 rfl (lv_at hl 0 rfl) ?_
  refine va_get (D := D) (ci := 0) (v := .ref cl) (C := RX0) (T := TX0) (N := 2) hx hb hts iw_k_X0_become_0 hown hK hP 0 rfl rfl 1 (by decide) (hts (.fieldLink RX0 15 "BinStreams$Contexts" "likely" "[I") (by decide +kernel)) (fun _ h9 => h9) rfl dX0_become_21 ?_
  refine lv_iconst (v := nI 0) hx hb dX0_become_24 (by decide) ?_
  refine lv_bipush (v := nI 32) hx hb dX0_become_25 (by decide) ?_
  refine wk_copy hx hb (hml.trans hl.1.symm) hown (hts (.methodLink RX0 18 arraycopyName) (by decide +kernel)) (hts (.native arraycopyName) (by decide +kernel)) (hts (.static arraycopyName) (by decide +kernel)) (hts (.initialized "java/lang/System") (by decide +kernel)) hK hP hD hS 5 2 0 0 rfl rfl rfl rfl (by omega) (by omega) (by decide) (by decide) (Nat.le_of_ble_eq_true rfl) (Nat.le_of_ble_eq_true rfl) dX0_become_27 (fun H locs hP hD hS => ?_)
  have hP : va_P D vwCl [(cc, .inr (0, [.ref cs, .ref cl])), (cs, .inl (cI, 32, .inl (ai (ncpy S0 S 0 0 32)))), (cl, .inl (cI, 32, .inl (ai (ncpy L0 L 0 0 32)))), (co, .inr (0, [.ref os, .ref ol])), (os, .inl (cI, 32, .inl (ai S0))), (ol, .inl (cI, 32, .inl (ai L0)))] H := hP
  have hD : va_D A [(cc, .inr (0, [.ref cs, .ref cl])), (cs, .inl (cI, 32, .inl (ai (ncpy S0 S 0 0 32)))), (cl, .inl (cI, 32, .inl (ai (ncpy L0 L 0 0 32)))), (co, .inr (0, [.ref os, .ref ol])), (os, .inl (cI, 32, .inl (ai S0))), (ol, .inl (cI, 32, .inl (ai L0)))] := hD
  have hP : va_P D vwCl [(cc, .inr (0, [.ref cs, .ref cl])), (cs, .inl (cI, 32, .inl (ai S0))), (cl, .inl (cI, 32, .inl (ai (ncpy L0 L 0 0 32)))), (co, .inr (0, [.ref os, .ref ol])), (os, .inl (cI, 32, .inl (ai S0))), (ol, .inl (cI, 32, .inl (ai L0)))] H := wk_ext (g := S0) 1 rfl (by intro j hj; unfold ncpy; rw [if_pos (by omega)]; congr 1; omega) hD hP
  have hD : va_D A [(cc, .inr (0, [.ref cs, .ref cl])), (cs, .inl (cI, 32, .inl (ai S0))), (cl, .inl (cI, 32, .inl (ai (ncpy L0 L 0 0 32)))), (co, .inr (0, [.ref os, .ref ol])), (os, .inl (cI, 32, .inl (ai S0))), (ol, .inl (cI, 32, .inl (ai L0)))] := hD.set (p := 1) rfl
  have hP : va_P D vwCl [(cc, .inr (0, [.ref cs, .ref cl])), (cs, .inl (cI, 32, .inl (ai S0))), (cl, .inl (cI, 32, .inl (ai L0))), (co, .inr (0, [.ref os, .ref ol])), (os, .inl (cI, 32, .inl (ai S0))), (ol, .inl (cI, 32, .inl (ai L0)))] H := wk_ext (g := L0) 2 rfl (by intro j hj; unfold ncpy; rw [if_pos (by omega)]; congr 1; omega) hD hP
  have hD : va_D A [(cc, .inr (0, [.ref cs, .ref cl])), (cs, .inl (cI, 32, .inl (ai S0))), (cl, .inl (cI, 32, .inl (ai L0))), (co, .inr (0, [.ref os, .ref ol])), (os, .inl (cI, 32, .inl (ai S0))), (ol, .inl (cI, 32, .inl (ai L0)))] := hD.set (p := 2) rfl
  exact W.vret hx hb hr (fun t ht hW => ⟨⟨(), rfl, trivial, by rw [ht]; exact hP, va_K.moved hW.alike hK, hD⟩, hS.F ht⟩) hS.2.2 dX0_become_30

set_option maxHeartbeats 1000000 in
set_option maxRecDepth 100000 in
/-- an array is filled -/
theorem k_J7_fill_53178 (l : Launch) (D : va_G) (cI : ClassId) (wb : Nat) (sz : Nat) (v : Nat) (Bf : Nat → Nat) : Met l yJ7_fill_53178 wsJ7_fill_53178 ({ frames := 0, cells := 0, slots := 0, locals := 0 }) (kP D none [.ref wb, .int (nI v)] [(cI, .int)] [(wb, .inl (cI, 302, .inl (ai Bf)))] sz) (va_Qv (fun (u : Unit) => match u with | () => True) (fun u t => match u with | () => kB D [(cI, .int)] (va_A [(wb, .inl (cI, 302, .inl (ai Bf)))] sz) [(wb, .inl (cI, 302, .inl (ai (fun _ => v))))] t) (va_A [(wb, .inl (cI, 302, .inl (ai Bf)))] sz)) 0 0 (va_A [(wb, .inl (cI, 302, .inl (ai Bf)))] sz) := by
  refine Met.ofW (cc := cJ7_fill_53178) (maxL := 4) (ret := none) (by decide) rfl ?_
  intro p e s m args below meth c s₁ B hml hv
  obtain ⟨rfl, hsz, hP, hK, hD0, hev⟩ := hv
  have hx := B.exec
  have hb := B.bytes
  have hr := B.returns
  have hts := atoms_spec (ws := wsJ7_fill_53178) B.pre
  have hown : s.vm.findClass RJ7 = some m.cls := findClass_of_methodNamed B.named
  have hlocks := B.notSynchronized
  subst hsz
  have hD := hD0.self (sz := s.heap.size)
  clear hD0
  generalize hAe : va_A [(wb, .inl (cI, 302, .inl (ai Bf)))] s.heap.size = A at hD hev ⊢
  have hA : ∀ q : Nat, s.heap.size ≤ q → A q := fun q h => by rw [← hAe]; exact Or.inr h
  clear hAe
  have hS : va_S A s.heap s.heap [] := va_S.rf
  have hl := lv_entry ([.ref wb, .int (nI v)]) (n := 4) (Nat.le_of_ble_eq_true rfl)
  rw [lg_entry_eq]
  generalize (lg_sl ([.ref wb, .int (nI v)]) ++ List.replicate (4 - (lg_sl ([.ref wb, .int (nI v)])).length) Slot.unset).toArray = ls at hl ⊢
  have hl : lv_has ls 4 [(0, .ref wb), (1, .int (nI v))] := hl
  refine wk_Q (fun QQ hQQ => ?_)
  refine lv_iconst (v := nI 0) hx hb dJ7_fill_53178_0 (by decide) ?_
  refine lv_istore_n (lv' := [(2, .int (nI 0)), (0, .ref wb), (1, .int (nI v))]) hx hb dJ7_fill_53178_1 rfl hl (by decide) rfl (fun ls hl => ?_)
  refine lv_aload_n hx hb dJ7_fill_53178_2 rfl (lv_at hl 1 rfl) ?_
  refine va_alen (v := nI 302) hx hb hK hP 0 0 rfl rfl rfl dJ7_fill_53178_3 ?_
  refine lv_istore_n (lv' := [(3, .int (nI 302)), (2, .int (nI 0)), (0, .ref wb), (1, .int (nI v))]) hx hb dJ7_fill_53178_4 rfl hl (by decide) rfl (fun ls hl => ?_)
  have key5 : ∀ (n9 : Nat), ∀ (i : Nat), ∀ (B1 : Nat → Nat), 302 - i < n9 → (i ≤ 302) → (∀ j, j < i → B1 j = v) → ∀ (H : Heap) (locs : List Loc), va_P D vwCl [(wb, .inl (cI, 302, .inl (ai B1)))] H → va_D A [(wb, .inl (cI, 302, .inl (ai B1)))] → va_S A s.heap H locs → ∀ (ls : Array Slot), lv_has ls 4 [(0, .ref wb), (1, .int (nI v)), (2, .int (nI i)), (3, .int (nI 302))] → W p l e (headSpec wsJ7_fill_53178 ({ frames := 0, cells := 0, slots := 0, locals := 0 })).room s m [.ref wb, .int (nI v)].toArray below meth c H locs 0 0 QQ (F0 m 5 ls []) := by
    clear hP hD hS hl
    intro n9
    induction n9 with
    | zero => intro i B1 h9; exact absurd h9 (Nat.not_lt_zero _)
    | succ n9 ih9 =>
      intro i B1 h9 hi hB H locs hP hD hS ls hl
      refine lv_iload_n hx hb dJ7_fill_53178_5 rfl (lv_at hl 2 rfl) ?_
      refine lv_iload_n hx hb dJ7_fill_53178_6 rfl (lv_at hl 3 rfl) ?_
      refine wk_ge (tgt := 20) hx hb dJ7_fill_53178_7 (by decide) (by omega) (by omega) (fun c_7 => ?_) (fun c_7 => ?_)
      · have hP : va_P D vwCl [(wb, .inl (cI, 302, .inl (ai (fun _ => v))))] H := wk_ext (g := fun _ => v) 0 rfl (by intro j hj; exact hB j (by omega)) hD hP
        have hD : va_D A [(wb, .inl (cI, 302, .inl (ai (fun _ => v))))] := hD.set (p := 0) rfl
        rw [hQQ]
        exact W.vret hx hb hr (fun t ht hW => ⟨⟨(), rfl, trivial, by rw [ht]; exact hP, va_K.moved hW.alike hK, hD⟩, hS.F ht⟩) hS.2.2 dJ7_fill_53178_20
      · refine lv_aload_n hx hb dJ7_fill_53178_10 rfl (lv_at hl 0 rfl) ?_
        refine lv_iload_n hx hb dJ7_fill_53178_11 rfl (lv_at hl 2 rfl) ?_
        refine lv_iload_n hx hb dJ7_fill_53178_12 rfl (lv_at hl 1 rfl) ?_
        refine wk_iast hx hb hK hP hD hS 0 0 rfl rfl (by omega) (by decide) dJ7_fill_53178_13 (fun H locs hP hD hS => ?_)
        have hP : va_P D vwCl [(wb, .inl (cI, 302, .inl (ai (nu B1 i v))))] H := hP
        have hD : va_D A [(wb, .inl (cI, 302, .inl (ai (nu B1 i v))))] := hD
        refine lv_iinc (v := nI (i + 1)) (lv' := [(2, .int (nI (i + 1))), (0, .ref wb), (1, .int (nI v)), (3, .int (nI 302))]) hx hb dJ7_fill_53178_14 hl (k := 2) rfl (by exact nI_add _ 1) (by decide) rfl (fun ls hl => ?_)
        refine lv_goto (tgt := 5) hx hb dJ7_fill_53178_17 (by decide) ?_
        exact ih9 (i + 1) (nu B1 i v) (by omega) (by omega) (by exact nu_all hB) _ _ hP hD hS ls (lv_sub hl [1, 2, 0, 3] rfl)
  exact key5 ((302 - 0) + 1) 0 Bf (by omega) (by omega) (by intro j hj; omega) _ _ hP hD hS ls (lv_sub hl [2, 3, 1, 0] rfl)

set_option maxHeartbeats 1000000 in
set_option maxRecDepth 100000 in
/-- the context of a count's bin -/
theorem k_X3_contextOfCount (l : Launch) (D : va_G) (cI : ClassId) (sz : Nat) (ca : Nat) (i : Nat) (hca : ca < 1000) (hi : i < 1000) : Met l yX3_contextOfCount wsX3_contextOfCount ({ frames := 1, cells := 0, slots := 0, locals := 15 }) (kP D none [.int (nI ca), .int (nI i)] [(cI, .int)] [] sz) (va_Qi (fun (r : Int32) (u : Unit) => match u with | () => r = nI (ca + min i 3)) (fun u t => match u with | () => kB D [(cI, .int)] (va_A [] sz) [] t) (va_A [] sz)) 0 0 (va_A [] sz) := by
  refine Met.ofW (cc := cX3_contextOfCount) (maxL := 2) (ret := (some .int)) (by decide) rfl ?_
  intro p e s m args below meth c s₁ B hml hv
  obtain ⟨rfl, hsz, hP, hK, hD0, hev⟩ := hv
  have hx := B.exec
  have hb := B.bytes
  have hr := B.returns
  have hts := atoms_spec (ws := wsX3_contextOfCount) B.pre
  have hown : s.vm.findClass RX3 = some m.cls := findClass_of_methodNamed B.named
  have hlocks := B.notSynchronized
  subst hsz
  have hD := hD0.self (sz := s.heap.size)
  clear hD0
  generalize hAe : va_A [] s.heap.size = A at hD hev ⊢
  have hA : ∀ q : Nat, s.heap.size ≤ q → A q := fun q h => by rw [← hAe]; exact Or.inr h
  clear hAe
  have hS : va_S A s.heap s.heap [] := va_S.rf
  have hl := lv_entry ([.int (nI ca), .int (nI i)]) (n := 2) (Nat.le_of_ble_eq_true rfl)
  rw [lg_entry_eq]
  generalize (lg_sl ([.int (nI ca), .int (nI i)]) ++ List.replicate (2 - (lg_sl ([.int (nI ca), .int (nI i)])).length) Slot.unset).toArray = ls at hl ⊢
  have hl : lv_has ls 2 [(0, .int (nI ca)), (1, .int (nI i))] := hl
  refine lv_iload_n hx hb dX3_contextOfCount_0 rfl (lv_at hl 0 rfl) ?_
  refine lv_iload_n hx hb dX3_contextOfCount_1 rfl (lv_at hl 1 rfl) ?_
  refine lv_iconst (v := nI 3) hx hb dX3_contextOfCount_2 (by decide) ?_
  refine wk_mmin hx hb (hml.trans hl.1.symm) hown (hts (.methodLink RX3 203 Lib.Math.min.name) (by decide +kernel)) (hts (.static Lib.Math.min.name) (by decide +kernel)) (hts (.initialized "java/lang/Math") (by decide +kernel)) (hts (.code Lib.Math.min.name Lib.Math.min.code 2 (some .int)) (by decide +kernel)) (Nat.le_of_ble_eq_true rfl) (Nat.le_of_ble_eq_true rfl) (Nat.le_of_ble_eq_true rfl) (Nat.le_of_ble_eq_true rfl) (by omega) (by omega) dX3_contextOfCount_3 ?_
  refine wk_iadd hx hb dX3_contextOfCount_6 ?_
  exact W.iret (v := nI (ca + (min i 3))) hx hb hr (fun t ht hW => ⟨⟨nI (ca + (min i 3)), (), rfl, rfl, by rw [ht]; exact hP, va_K.moved hW.alike hK, hD⟩, hS.F ht⟩) hS.2.2 dX3_contextOfCount_7
