theorem iw_k_X1_nextBit_1 : ∀ w ∈ u_ws RX1 TX1 7, w ∈ wsX1_nextBit := by decide +kernel
set_option maxHeartbeats 1000000 in
set_option maxRecDepth 100000 in
/-- the next bit -/
theorem k_X1_nextBit (l : Launch) (D : va_G) (cI : ClassId) (rd rc rcs rcl rb : Nat) (sz : Nat) (pl : Nat) (has : Nat) (rg : Nat) (of : Nat) (rdg : Nat) (S : Nat → Nat) (L : Nat → Nat) (Cf : Nat → Nat) (bs : Nat → Nat) (hbs : BS Cf has bs) (hC : ∀ j, j < has → Cf j < 256) (hhas : has ≤ 302) (hpl : pl < 1000000000) : Met l yX1_nextBit wsX1_nextBit ({ frames := 0, cells := 0, slots := 0, locals := 0 }) (kP D none [.ref rd] [(cI, .int)] [(rd, .inr (1, [.ref rc, .int (nI rg), .int (nI of), .int (nI rdg), .ref rb, .int (nI (8 * has)), .int (nI (min pl (8 * has)))])), (rc, .inr (0, [.ref rcs, .ref rcl])), (rcs, .inl (cI, 32, .inl (ai S))), (rcl, .inl (cI, 32, .inl (ai L))), (rb, .inl (cI, 302, .inl (ai Cf)))] sz) (va_Qi (fun (r : Int32) (u : Unit) => match u with | () => r = nI (bs pl)) (fun u t => match u with | () => kB D [(cI, .int)] (va_A [(rd, .inr (1, [.ref rc, .int (nI rg), .int (nI of), .int (nI rdg), .ref rb, .int (nI (8 * has)), .int (nI (min pl (8 * has)))])), (rc, .inr (0, [.ref rcs, .ref rcl])), (rcs, .inl (cI, 32, .inl (ai S))), (rcl, .inl (cI, 32, .inl (ai L))), (rb, .inl (cI, 302, .inl (ai Cf)))] sz) [(rd, .inr (1, [.ref rc, .int (nI rg), .int (nI of), .int (nI rdg), .ref rb, .int (nI (8 * has)), .int (nI (min (pl + 1) (8 * has)))])), (rc, .inr (0, [.ref rcs, .ref rcl])), (rcs, .inl (cI, 32, .inl (ai S))), (rcl, .inl (cI, 32, .inl (ai L))), (rb, .inl (cI, 302, .inl (ai Cf)))] t) (va_A [(rd, .inr (1, [.ref rc, .int (nI rg), .int (nI of), .int (nI rdg), .ref rb, .int (nI (8 * has)), .int (nI (min pl (8 * has)))])), (rc, .inr (0, [.ref rcs, .ref rcl])), (rcs, .inl (cI, 32, .inl (ai S))), (rcl, .inl (cI, 32, .inl (ai L))), (rb, .inl (cI, 302, .inl (ai Cf)))] sz)) 0 0 (va_A [(rd, .inr (1, [.ref rc, .int (nI rg), .int (nI of), .int (nI rdg), .ref rb, .int (nI (8 * has)), .int (nI (min pl (8 * has)))])), (rc, .inr (0, [.ref rcs, .ref rcl])), (rcs, .inl (cI, 32, .inl (ai S))), (rcl, .inl (cI, 32, .inl (ai L))), (rb, .inl (cI, 302, .inl (ai Cf)))] sz) := by
  refine Met.ofW (cc := cX1_nextBit) (maxL := 2) (ret := (some .int)) (by decide) rfl ?_
  intro p e s m args below meth c s₁ B hml hv
  obtain ⟨rfl, hsz, hP, hK, hD0, hev⟩ := hv
  have hx := B.exec
  have hb := B.bytes
  have hr := B.returns
  have hts := atoms_spec (ws := wsX1_nextBit) B.pre
  have hown : s.vm.findClass RX1 = some m.cls := findClass_of_methodNamed B.named
  have hlocks := B.notSynchronized
  subst hsz
  have hD := hD0.self (sz := s.heap.size)
  clear hD0
  generalize hAe : va_A [(rd, .inr (1, [.ref rc, .int (nI rg), .int (nI of), .int (nI rdg), .ref rb, .int (nI (8 * has)), .int (nI (min pl (8 * has)))])), (rc, .inr (0, [.ref rcs, .ref rcl])), (rcs, .inl (cI, 32, .inl (ai S))), (rcl, .inl (cI, 32, .inl (ai L))), (rb, .inl (cI, 302, .inl (ai Cf)))] s.heap.size = A at hD hev ⊢
  have hA : ∀ q : Nat, s.heap.size ≤ q → A q := fun q h => by rw [← hAe]; exact Or.inr h
  clear hAe
  have hS : va_S A s.heap s.heap [] := va_S.rf
  have hl := lv_entry ([.ref rd]) (n := 2) (Nat.le_of_ble_eq_true rfl)
  rw [lg_entry_eq]
  generalize (lg_sl ([.ref rd]) ++ List.replicate (2 - (lg_sl ([.ref rd])).length) Slot.unset).toArray = ls at hl ⊢
  have hl : lv_has ls 2 [(0, .ref rd)] := hl
  refine lv_aload_n hx hb dX1_nextBit_0 rfl (lv_at hl 0 rfl) ?_
  refine va_get (D := D) (ci := 1) (v := .int (nI (min pl (8 * has)))) (C := RX1) (T := TX1) (N := 7) hx hb hts iw_k_X1_nextBit_1 hown hK hP 0 rfl rfl 6 (by decide) (hts (.fieldLink RX1 36 "BinStreams$Reader" "bitsRead" "I") (by decide +kernel)) (fun _ h9 => h9) rfl dX1_nextBit_1 ?_
  refine lv_aload_n hx hb dX1_nextBit_4 rfl (lv_at hl 0 rfl) ?_
  refine va_get (D := D) (ci := 1) (v := .int (nI (8 * has))) (C := RX1) (T := TX1) (N := 7) hx hb hts iw_k_X1_nextBit_1 hown hK hP 0 rfl rfl 5 (by decide) (hts (.fieldLink RX1 32 "BinStreams$Reader" "bitCount" "I") (by decide +kernel)) (fun _ h9 => h9) rfl dX1_nextBit_5 ?_
  refine wk_lt (tgt := 13) hx hb dX1_nextBit_8 (by decide) (by omega) (by omega) (fun c_8 => ?_) (fun c_8 => ?_)
  · refine lv_aload_n hx hb dX1_nextBit_13 rfl (lv_at hl 0 rfl) ?_
    refine va_get (D := D) (ci := 1) (v := .ref rb) (C := RX1) (T := TX1) (N := 7) hx hb hts iw_k_X1_nextBit_1 hown hK hP 0 rfl rfl 4 (by decide) (hts (.fieldLink RX1 18 "BinStreams$Reader" "bytes" "[I") (by decide +kernel)) (fun _ h9 => h9) rfl dX1_nextBit_14 ?_
    refine lv_aload_n hx hb dX1_nextBit_17 rfl (lv_at hl 0 rfl) ?_
    refine va_get (D := D) (ci := 1) (v := .int (nI (min pl (8 * has)))) (C := RX1) (T := TX1) (N := 7) hx hb hts iw_k_X1_nextBit_1 hown hK hP 0 rfl rfl 6 (by decide) (hts (.fieldLink RX1 36 "BinStreams$Reader" "bitsRead" "I") (by decide +kernel)) (fun _ h9 => h9) rfl dX1_nextBit_18 ?_
    refine lv_bipush (v := nI 8) hx hb dX1_nextBit_21 (by decide) ?_
    refine wk_idiv hx hb dX1_nextBit_23 (by omega) (by omega) (by omega) ?_
    refine wk_iald hx hb hK hP 4 0 rfl rfl (by omega) (by decide) dX1_nextBit_24 ?_
    refine lv_bipush (v := nI 7) hx hb dX1_nextBit_25 (by decide) ?_
    refine lv_aload_n hx hb dX1_nextBit_27 rfl (lv_at hl 0 rfl) ?_
    refine va_get (D := D) (ci := 1) (v := .int (nI (min pl (8 * has)))) (C := RX1) (T := TX1) (N := 7) hx hb hts iw_k_X1_nextBit_1 hown hK hP 0 rfl rfl 6 (by decide) (hts (.fieldLink RX1 36 "BinStreams$Reader" "bitsRead" "I") (by decide +kernel)) (fun _ h9 => h9) rfl dX1_nextBit_28 ?_
    refine lv_bipush (v := nI 8) hx hb dX1_nextBit_31 (by decide) ?_
    refine wk_irem hx hb dX1_nextBit_33 (by omega) (by omega) (by omega) ?_
    refine wk_isub hx hb dX1_nextBit_34 (by omega) ?_
    refine wk_ishr hx hb dX1_nextBit_35 (by omega) (by have := hC (min pl (8 * has) / 8) (by omega); omega) ?_
    refine lv_iconst (v := nI 1) hx hb dX1_nextBit_36 (by decide) ?_
    refine wk_iand1 hx hb dX1_nextBit_37 (by have h7 := hC (min pl (8 * has) / 8) (by omega); have h8 := Nat.div_le_self (Cf (min pl (8 * has) / 8)) (2 ^ (7 - min pl (8 * has) % 8)); omega) ?_
    refine lv_istore_n (lv' := [(1, .int (nI (((Cf ((min pl (8 * has)) / 8)) / 2 ^ (7 - ((min pl (8 * has)) % 8))) % 2))), (0, .ref rd)]) hx hb dX1_nextBit_38 rfl hl (by decide) rfl (fun ls hl => ?_)
    refine lv_aload_n hx hb dX1_nextBit_39 rfl (lv_at hl 1 rfl) ?_
    refine lv_dup hx hb dX1_nextBit_40 rfl ?_
    refine va_get (D := D) (ci := 1) (v := .int (nI (min pl (8 * has)))) (C := RX1) (T := TX1) (N := 7) hx hb hts iw_k_X1_nextBit_1 hown hK hP 0 rfl rfl 6 (by decide) (hts (.fieldLink RX1 36 "BinStreams$Reader" "bitsRead" "I") (by decide +kernel)) (fun _ h9 => h9) rfl dX1_nextBit_41 ?_
    refine lv_iconst (v := nI 1) hx hb dX1_nextBit_44 (by decide) ?_
    refine wk_iadd hx hb dX1_nextBit_45 ?_
    refine va_put (D := D) (ci := 1) (v := .int (nI ((min pl (8 * has)) + 1))) (ty := .int) (C := RX1) (T := TX1) (N := 7) hx hb hts iw_k_X1_nextBit_1 tyX1 tyX1_ok nmX1 hown hK hP hD hS 0 rfl rfl 6 (by decide) (hts (.fieldLink RX1 36 "BinStreams$Reader" "bitsRead" "I") (by decide +kernel)) (fun _ h9 => h9) rfl (by decide +kernel) rfl rfl (Nat.le_of_ble_eq_true rfl) dX1_nextBit_46 (fun H locs hP hD hS => ?_)
    have hP : va_P D vwCl [(rd, .inr (1, [.ref rc, .int (nI rg), .int (nI of), .int (nI rdg), .ref rb, .int (nI (8 * has)), .int (nI ((min pl (8 * has)) + 1))])), (rc, .inr (0, [.ref rcs, .ref rcl])), (rcs, .inl (cI, 32, .inl (ai S))), (rcl, .inl (cI, 32, .inl (ai L))), (rb, .inl (cI, 302, .inl (ai Cf)))] H := hP
    have hD : va_D A [(rd, .inr (1, [.ref rc, .int (nI rg), .int (nI of), .int (nI rdg), .ref rb, .int (nI (8 * has)), .int (nI ((min pl (8 * has)) + 1))])), (rc, .inr (0, [.ref rcs, .ref rcl])), (rcs, .inl (cI, 32, .inl (ai S))), (rcl, .inl (cI, 32, .inl (ai L))), (rb, .inl (cI, 302, .inl (ai Cf)))] := hD
    refine lv_iload_n hx hb dX1_nextBit_49 rfl (lv_at hl 0 rfl) ?_
    have he_1 : ((min pl (8 * has)) + 1) = (min (pl + 1) (8 * has)) := by omega
    have hP : va_P D vwCl [(rd, .inr (1, [.ref rc, .int (nI rg), .int (nI of), .int (nI rdg), .ref rb, .int (nI (8 * has)), .int (nI (min (pl + 1) (8 * has)))])), (rc, .inr (0, [.ref rcs, .ref rcl])), (rcs, .inl (cI, 32, .inl (ai S))), (rcl, .inl (cI, 32, .inl (ai L))), (rb, .inl (cI, 302, .inl (ai Cf)))] H := (congrArg (fun z9 : Nat => va_P D vwCl [(rd, .inr (1, [.ref rc, .int (nI rg), .int (nI of), .int (nI rdg), .ref rb, .int (nI (8 * has)), .int (nI z9)])), (rc, .inr (0, [.ref rcs, .ref rcl])), (rcs, .inl (cI, 32, .inl (ai S))), (rcl, .inl (cI, 32, .inl (ai L))), (rb, .inl (cI, 302, .inl (ai Cf)))] H) he_1).mp hP
    have hD : va_D A [(rd, .inr (1, [.ref rc, .int (nI rg), .int (nI of), .int (nI rdg), .ref rb, .int (nI (8 * has)), .int (nI (min (pl + 1) (8 * has)))])), (rc, .inr (0, [.ref rcs, .ref rcl])), (rcs, .inl (cI, 32, .inl (ai S))), (rcl, .inl (cI, 32, .inl (ai L))), (rb, .inl (cI, 302, .inl (ai Cf)))] := (congrArg (fun z9 : Nat => va_D A [(rd, .inr (1, [.ref rc, .int (nI rg), .int (nI of), .int (nI rdg), .ref rb, .int (nI (8 * has)), .int (nI z9)])), (rc, .inr (0, [.ref rcs, .ref rcl])), (rcs, .inl (cI, 32, .inl (ai S))), (rcl, .inl (cI, 32, .inl (ai L))), (rb, .inl (cI, 302, .inl (ai Cf)))]) he_1).mp hD
    exact W.iret (v := nI (((Cf ((min pl (8 * has)) / 8)) / 2 ^ (7 - ((min pl (8 * has)) % 8))) % 2)) hx hb hr (fun t ht hW => ⟨⟨nI (((Cf ((min pl (8 * has)) / 8)) / 2 ^ (7 - ((min pl (8 * has)) % 8))) % 2), (), rfl, by rw [hbs pl, if_pos (by omega), show min pl (8 * has) = pl from by omega], by rw [ht]; exact hP, va_K.moved hW.alike hK, hD⟩, hS.F ht⟩) hS.2.2 dX1_nextBit_50
  · refine lv_iconst (v := nI 0) hx hb dX1_nextBit_11 (by decide) ?_
    have he_2 : (min pl (8 * has)) = (min (pl + 1) (8 * has)) := by omega
    have hP : va_P D vwCl [(rd, .inr (1, [.ref rc, .int (nI rg), .int (nI of), .int (nI rdg), .ref rb, .int (nI (8 * has)), .int (nI (min (pl + 1) (8 * has)))])), (rc, .inr (0, [.ref rcs, .ref rcl])), (rcs, .inl (cI, 32, .inl (ai S))), (rcl, .inl (cI, 32, .inl (ai L))), (rb, .inl (cI, 302, .inl (ai Cf)))] s.heap := (congrArg (fun z9 : Nat => va_P D vwCl [(rd, .inr (1, [.ref rc, .int (nI rg), .int (nI of), .int (nI rdg), .ref rb, .int (nI (8 * has)), .int (nI z9)])), (rc, .inr (0, [.ref rcs, .ref rcl])), (rcs, .inl (cI, 32, .inl (ai S))), (rcl, .inl (cI, 32, .inl (ai L))), (rb, .inl (cI, 302, .inl (ai Cf)))] s.heap) he_2).mp hP
    have hD : va_D A [(rd, .inr (1, [.ref rc, .int (nI rg), .int (nI of), .int (nI rdg), .ref rb, .int (nI (8 * has)), .int (nI (min (pl + 1) (8 * has)))])), (rc, .inr (0, [.ref rcs, .ref rcl])), (rcs, .inl (cI, 32, .inl (ai S))), (rcl, .inl (cI, 32, .inl (ai L))), (rb, .inl (cI, 302, .inl (ai Cf)))] := (congrArg (fun z9 : Nat => va_D A [(rd, .inr (1, [.ref rc, .int (nI rg), .int (nI of), .int (nI rdg), .ref rb, .int (nI (8 * has)), .int (nI z9)])), (rc, .inr (0, [.ref rcs, .ref rcl])), (rcs, .inl (cI, 32, .inl (ai S))), (rcl, .inl (cI, 32, .inl (ai L))), (rb, .inl (cI, 302, .inl (ai Cf)))]) he_2).mp hD
    exact W.iret (v := nI 0) hx hb hr (fun t ht hW => ⟨⟨nI 0, (), rfl, by rw [hbs pl, if_neg (by omega)], by rw [ht]; exact hP, va_K.moved hW.alike hK, hD⟩, hS.F ht⟩) hS.2.2 dX1_nextBit_12

theorem iw_k_X1_takeBit_1 : ∀ w ∈ u_ws RX1 TX1 7, w ∈ wsX1_takeBit := by decide +kernel
set_option maxHeartbeats 1000000 in
set_option maxRecDepth 100000 in
/-- the offset takes a bit -/
theorem k_X1_takeBit (l : Launch) (D : va_G) (cI : ClassId) (rd rc rcs rcl rb : Nat) (sz : Nat) (pl : Nat) (has : Nat) (rg : Nat) (of : Nat) (rdg : Nat) (S : Nat → Nat) (L : Nat → Nat) (Cf : Nat → Nat) (bs : Nat → Nat) (hbs : BS Cf has bs) (hC : ∀ j, j < has → Cf j < 256) (hhas : has ≤ 302) (hpl : pl < 1000000000) : Met l yX1_takeBit wsX1_takeBit ({ frames := 1, cells := 0, slots := 0, locals := 21 }) (kP D none [.ref rd] [(cI, .int)] [(rd, .inr (1, [.ref rc, .int (nI rg), .int (nI of), .int (nI rdg), .ref rb, .int (nI (8 * has)), .int (nI (min pl (8 * has)))])), (rc, .inr (0, [.ref rcs, .ref rcl])), (rcs, .inl (cI, 32, .inl (ai S))), (rcl, .inl (cI, 32, .inl (ai L))), (rb, .inl (cI, 302, .inl (ai Cf)))] sz) (va_Qv (fun (u : Unit) => match u with | () => True) (fun u t => match u with | () => kB D [(cI, .int)] (va_A [(rd, .inr (1, [.ref rc, .int (nI rg), .int (nI of), .int (nI rdg), .ref rb, .int (nI (8 * has)), .int (nI (min pl (8 * has)))])), (rc, .inr (0, [.ref rcs, .ref rcl])), (rcs, .inl (cI, 32, .inl (ai S))), (rcl, .inl (cI, 32, .inl (ai L))), (rb, .inl (cI, 302, .inl (ai Cf)))] sz) [(rd, .inr (1, [.ref rc, .int (nI rg), .int (nI (2 * of + bs pl)), .int (nI rdg), .ref rb, .int (nI (8 * has)), .int (nI (min (pl + 1) (8 * has)))])), (rc, .inr (0, [.ref rcs, .ref rcl])), (rcs, .inl (cI, 32, .inl (ai S))), (rcl, .inl (cI, 32, .inl (ai L))), (rb, .inl (cI, 302, .inl (ai Cf)))] t) (va_A [(rd, .inr (1, [.ref rc, .int (nI rg), .int (nI of), .int (nI rdg), .ref rb, .int (nI (8 * has)), .int (nI (min pl (8 * has)))])), (rc, .inr (0, [.ref rcs, .ref rcl])), (rcs, .inl (cI, 32, .inl (ai S))), (rcl, .inl (cI, 32, .inl (ai L))), (rb, .inl (cI, 302, .inl (ai Cf)))] sz)) 0 0 (va_A [(rd, .inr (1, [.ref rc, .int (nI rg), .int (nI of), .int (nI rdg), .ref rb, .int (nI (8 * has)), .int (nI (min pl (8 * has)))])), (rc, .inr (0, [.ref rcs, .ref rcl])), (rcs, .inl (cI, 32, .inl (ai S))), (rcl, .inl (cI, 32, .inl (ai L))), (rb, .inl (cI, 302, .inl (ai Cf)))] sz) := by
  refine Met.ofW (cc := cX1_takeBit) (maxL := 1) (ret := none) (by decide) rfl ?_
  intro p e s m args below meth c s₁ B hml hv
  obtain ⟨rfl, hsz, hP, hK, hD0, hev⟩ := hv
  have hx := B.exec
  have hb := B.bytes
  have hr := B.returns
  have hts := atoms_spec (ws := wsX1_takeBit) B.pre
  have hown : s.vm.findClass RX1 = some m.cls := findClass_of_methodNamed B.named
  have hlocks := B.notSynchronized
  subst hsz
  have hD := hD0.self (sz := s.heap.size)
  clear hD0
  generalize hAe : va_A [(rd, .inr (1, [.ref rc, .int (nI rg), .int (nI of), .int (nI rdg), .ref rb, .int (nI (8 * has)), .int (nI (min pl (8 * has)))])), (rc, .inr (0, [.ref rcs, .ref rcl])), (rcs, .inl (cI, 32, .inl (ai S))), (rcl, .inl (cI, 32, .inl (ai L))), (rb, .inl (cI, 302, .inl (ai Cf)))] s.heap.size = A at hD hev ⊢
  have hA : ∀ q : Nat, s.heap.size ≤ q → A q := fun q h => by rw [← hAe]; exact Or.inr h
  clear hAe
  have hS : va_S A s.heap s.heap [] := va_S.rf
  have hl := lv_entry ([.ref rd]) (n := 1) (Nat.le_of_ble_eq_true rfl)
  rw [lg_entry_eq]
  generalize (lg_sl ([.ref rd]) ++ List.replicate (1 - (lg_sl ([.ref rd])).length) Slot.unset).toArray = ls at hl ⊢
  have hl : lv_has ls 1 [(0, .ref rd)] := hl
  refine lv_aload_n hx hb dX1_takeBit_0 rfl (lv_at hl 0 rfl) ?_
  refine lv_iconst (v := nI 2) hx hb dX1_takeBit_1 (by decide) ?_
  refine lv_aload_n hx hb dX1_takeBit_2 rfl (lv_at hl 0 rfl) ?_
  refine va_get (D := D) (ci := 1) (v := .int (nI of)) (C := RX1) (T := TX1) (N := 7) hx hb hts iw_k_X1_takeBit_1 hown hK hP 0 rfl rfl 2 (by decide) (hts (.fieldLink RX1 42 "BinStreams$Reader" "offset" "I") (by decide +kernel)) (fun _ h9 => h9) rfl dX1_takeBit_3 ?_
  refine wk_imul hx hb dX1_takeBit_6 ?_
  refine lv_aload_n hx hb dX1_takeBit_7 rfl (lv_at hl 0 rfl) ?_
  have hPc := hP.sub (ws' := [(rd, .inr (1, [.ref rc, .int (nI rg), .int (nI of), .int (nI rdg), .ref rb, .int (nI (8 * has)), .int (nI (min pl (8 * has)))])), (rc, .inr (0, [.ref rcs, .ref rcl])), (rcs, .inl (cI, 32, .inl (ai S))), (rcl, .inl (cI, 32, .inl (ai L))), (rb, .inl (cI, 302, .inl (ai Cf)))]) [0, 1, 2, 3, 4] rfl
  have hDc := hD.sub (ws' := [(rd, .inr (1, [.ref rc, .int (nI rg), .int (nI of), .int (nI rdg), .ref rb, .int (nI (8 * has)), .int (nI (min pl (8 * has)))])), (rc, .inr (0, [.ref rcs, .ref rcl])), (rcs, .inl (cI, 32, .inl (ai S))), (rcl, .inl (cI, 32, .inl (ai L))), (rb, .inl (cI, 302, .inl (ai Cf)))]) [0, 1, 2, 3, 4] (by decide) rfl
  have hFc := va_free (wc := [(rd, .inr (1, [.ref rc, .int (nI rg), .int (nI of), .int (nI rdg), .ref rb, .int (nI (8 * has)), .int (nI (min pl (8 * has)))])), (rc, .inr (0, [.ref rcs, .ref rcl])), (rcs, .inl (cI, 32, .inl (ai S))), (rcl, .inl (cI, 32, .inl (ai L))), (rb, .inl (cI, 302, .inl (ai Cf)))]) hD hS hA [0, 1, 2, 3, 4] rfl
  refine va_calli (va_runV (As := []) (rest := [.int (nI (2 * of)), .ref rd]) ⟨hx, hb, hml, hown, hts⟩ (k_X1_nextBit l D cI rd rc rcs rcl rb s.heap.size pl has rg of rdg S L Cf bs (by exact hbs) (by exact hC) (by omega) (by omega)) (cwV 0 hts gX1_takeBit_X1_nextBit rfl rfl rfl (by decide +kernel) ⟨Nat.le_of_ble_eq_true rfl, Nat.le_of_ble_eq_true rfl⟩) ⟨kP_blind, va_recv hK hPc (ci := 1) (q0 := 0) rfl rfl, kP_pre hPc hK hDc evo_none⟩ rfl rfl hl.1 rfl (lv_room (Nat.le_of_ble_eq_true rfl)) dX1_takeBit_8 ⟨Nat.le_of_ble_eq_true rfl, Nat.le_of_ble_eq_true rfl⟩) hS (fun q _ h => hFc q h) hFc (fun r_1 u t H1 locs ht hvm hnb hB hz1 hk1 hS => ?_)
  obtain ⟨hP1, hK1, hD1⟩ := hB
  rw [ht] at hP1
  obtain ⟨hP, hD⟩ := va_join (wc := [(rd, .inr (1, [.ref rc, .int (nI rg), .int (nI of), .int (nI rdg), .ref rb, .int (nI (8 * has)), .int (nI (min pl (8 * has)))])), (rc, .inr (0, [.ref rcs, .ref rcl])), (rcs, .inl (cI, 32, .inl (ai S))), (rcl, .inl (cI, 32, .inl (ai L))), (rb, .inl (cI, 302, .inl (ai Cf)))]) (wr := []) (w1 := [(rd, .inr (1, [.ref rc, .int (nI rg), .int (nI of), .int (nI rdg), .ref rb, .int (nI (8 * has)), .int (nI (min (pl + 1) (8 * has)))])), (rc, .inr (0, [.ref rcs, .ref rcl])), (rcs, .inl (cI, 32, .inl (ai S))), (rcl, .inl (cI, 32, .inl (ai L))), (rb, .inl (cI, 302, .inl (ai Cf)))]) hP hD [0, 1, 2, 3, 4] [] rfl rfl (by decide) (by decide) hk1 hFc hP1 hD1
  clear hP1 hK1 hD1 hPc hDc hFc hk1 hz1 hvm ht
  have hP : va_P D vwCl [(rd, .inr (1, [.ref rc, .int (nI rg), .int (nI of), .int (nI rdg), .ref rb, .int (nI (8 * has)), .int (nI (min (pl + 1) (8 * has)))])), (rc, .inr (0, [.ref rcs, .ref rcl])), (rcs, .inl (cI, 32, .inl (ai S))), (rcl, .inl (cI, 32, .inl (ai L))), (rb, .inl (cI, 302, .inl (ai Cf)))] H1 := hP.sub [0, 1, 2, 3, 4] rfl
  have hD : va_D A [(rd, .inr (1, [.ref rc, .int (nI rg), .int (nI of), .int (nI rdg), .ref rb, .int (nI (8 * has)), .int (nI (min (pl + 1) (8 * has)))])), (rc, .inr (0, [.ref rcs, .ref rcl])), (rcs, .inl (cI, 32, .inl (ai S))), (rcl, .inl (cI, 32, .inl (ai L))), (rb, .inl (cI, 302, .inl (ai Cf)))] := hD.sub [0, 1, 2, 3, 4] (by decide) rfl
  try dsimp only at hnb
  refine wk_topI (b := bs pl) (by exact hnb) ?_
  refine wk_iadd hx hb dX1_takeBit_11 ?_
  refine va_put (D := D) (ci := 1) (v := .int (nI ((2 * of) + (bs pl)))) (ty := .int) (C := RX1) (T := TX1) (N := 7) hx hb hts iw_k_X1_takeBit_1 tyX1 tyX1_ok nmX1 hown hK hP hD hS 0 rfl rfl 2 (by decide) (hts (.fieldLink RX1 42 "BinStreams$Reader" "offset" "I") (by decide +kernel)) (fun _ h9 => h9) rfl (by decide +kernel) rfl rfl (Nat.le_of_ble_eq_true rfl) dX1_takeBit_12 (fun H locs hP hD hS => ?_)
  have hP : va_P D vwCl [(rd, .inr (1, [.ref rc, .int (nI rg), .int (nI ((2 * of) + (bs pl))), .int (nI rdg), .ref rb, .int (nI (8 * has)), .int (nI (min (pl + 1) (8 * has)))])), (rc, .inr (0, [.ref rcs, .ref rcl])), (rcs, .inl (cI, 32, .inl (ai S))), (rcl, .inl (cI, 32, .inl (ai L))), (rb, .inl (cI, 302, .inl (ai Cf)))] H := hP
  have hD : va_D A [(rd, .inr (1, [.ref rc, .int (nI rg), .int (nI ((2 * of) + (bs pl))), .int (nI rdg), .ref rb, .int (nI (8 * has)), .int (nI (min (pl + 1) (8 * has)))])), (rc, .inr (0, [.ref rcs, .ref rcl])), (rcs, .inl (cI, 32, .inl (ai S))), (rcl, .inl (cI, 32, .inl (ai L))), (rb, .inl (cI, 302, .inl (ai Cf)))] := hD
  have he_2 : ((2 * of) + (bs pl)) = (2 * of + bs pl) := by omega
  have hP : va_P D vwCl [(rd, .inr (1, [.ref rc, .int (nI rg), .int (nI (2 * of + bs pl)), .int (nI rdg), .ref rb, .int (nI (8 * has)), .int (nI (min (pl + 1) (8 * has)))])), (rc, .inr (0, [.ref rcs, .ref rcl])), (rcs, .inl (cI, 32, .inl (ai S))), (rcl, .inl (cI, 32, .inl (ai L))), (rb, .inl (cI, 302, .inl (ai Cf)))] H := (congrArg (fun z9 : Nat => va_P D vwCl [(rd, .inr (1, [.ref rc, .int (nI rg), .int (nI z9), .int (nI rdg), .ref rb, .int (nI (8 * has)), .int (nI (min (pl + 1) (8 * has)))])), (rc, .inr (0, [.ref rcs, .ref rcl])), (rcs, .inl (cI, 32, .inl (ai S))), (rcl, .inl (cI, 32, .inl (ai L))), (rb, .inl (cI, 302, .inl (ai Cf)))] H) he_2).mp hP
  have hD : va_D A [(rd, .inr (1, [.ref rc, .int (nI rg), .int (nI (2 * of + bs pl)), .int (nI rdg), .ref rb, .int (nI (8 * has)), .int (nI (min (pl + 1) (8 * has)))])), (rc, .inr (0, [.ref rcs, .ref rcl])), (rcs, .inl (cI, 32, .inl (ai S))), (rcl, .inl (cI, 32, .inl (ai L))), (rb, .inl (cI, 302, .inl (ai Cf)))] := (congrArg (fun z9 : Nat => va_D A [(rd, .inr (1, [.ref rc, .int (nI rg), .int (nI z9), .int (nI rdg), .ref rb, .int (nI (8 * has)), .int (nI (min (pl + 1) (8 * has)))])), (rc, .inr (0, [.ref rcs, .ref rcl])), (rcs, .inl (cI, 32, .inl (ai S))), (rcl, .inl (cI, 32, .inl (ai L))), (rb, .inl (cI, 302, .inl (ai Cf)))]) he_2).mp hD
  exact W.vret hx hb hr (fun t ht hW => ⟨⟨(), rfl, trivial, by rw [ht]; exact hP, va_K.moved hW.alike hK, hD⟩, hS.F ht⟩) hS.2.2 dX1_takeBit_15

theorem iw_k_X1_shift_1 : ∀ w ∈ u_ws RX1 TX1 7, w ∈ wsX1_shift := by decide +kernel
set_option maxHeartbeats 1000000 in
set_option maxRecDepth 100000 in
/-- the reader shifts -/
theorem k_X1_shift (l : Launch) (D : va_G) (cI : ClassId) (rd rc rcs rcl rb : Nat) (sz : Nat) (pl : Nat) (has : Nat) (rg : Nat) (of : Nat) (rdg : Nat) (S : Nat → Nat) (L : Nat → Nat) (Cf : Nat → Nat) (bs : Nat → Nat) (hbs : BS Cf has bs) (hC : ∀ j, j < has → Cf j < 256) (hhas : has ≤ 302) (hpl : pl < 1000000000) (hrg : rg < 1024) (hpl2 : pl + 7 < 1000000000) : Met l yX1_shift wsX1_shift ({ frames := 2, cells := 0, slots := 0, locals := 41 }) (kP D none [.ref rd] [(cI, .int)] [(rd, .inr (1, [.ref rc, .int (nI rg), .int (nI of), .int (nI rdg), .ref rb, .int (nI (8 * has)), .int (nI (min pl (8 * has)))])), (rc, .inr (0, [.ref rcs, .ref rcl])), (rcs, .inl (cI, 32, .inl (ai S))), (rcl, .inl (cI, 32, .inl (ai L))), (rb, .inl (cI, 302, .inl (ai Cf)))] sz) (va_Qv (fun (u : Nat × Nat × Nat) => match u with | (rg1, of1, pl1) => (rg1, of1, pl1) = rsh bs 7 (rg, of, pl)) (fun u t => match u with | (rg1, of1, pl1) => kB D [(cI, .int)] (va_A [(rd, .inr (1, [.ref rc, .int (nI rg), .int (nI of), .int (nI rdg), .ref rb, .int (nI (8 * has)), .int (nI (min pl (8 * has)))])), (rc, .inr (0, [.ref rcs, .ref rcl])), (rcs, .inl (cI, 32, .inl (ai S))), (rcl, .inl (cI, 32, .inl (ai L))), (rb, .inl (cI, 302, .inl (ai Cf)))] sz) [(rd, .inr (1, [.ref rc, .int (nI rg1), .int (nI of1), .int (nI rdg), .ref rb, .int (nI (8 * has)), .int (nI (min pl1 (8 * has)))])), (rc, .inr (0, [.ref rcs, .ref rcl])), (rcs, .inl (cI, 32, .inl (ai S))), (rcl, .inl (cI, 32, .inl (ai L))), (rb, .inl (cI, 302, .inl (ai Cf)))] t) (va_A [(rd, .inr (1, [.ref rc, .int (nI rg), .int (nI of), .int (nI rdg), .ref rb, .int (nI (8 * has)), .int (nI (min pl (8 * has)))])), (rc, .inr (0, [.ref rcs, .ref rcl])), (rcs, .inl (cI, 32, .inl (ai S))), (rcl, .inl (cI, 32, .inl (ai L))), (rb, .inl (cI, 302, .inl (ai Cf)))] sz)) 0 0 (va_A [(rd, .inr (1, [.ref rc, .int (nI rg), .int (nI of), .int (nI rdg), .ref rb, .int (nI (8 * has)), .int (nI (min pl (8 * has)))])), (rc, .inr (0, [.ref rcs, .ref rcl])), (rcs, .inl (cI, 32, .inl (ai S))), (rcl, .inl (cI, 32, .inl (ai L))), (rb, .inl (cI, 302, .inl (ai Cf)))] sz) := by
  refine Met.ofW (cc := cX1_shift) (maxL := 2) (ret := none) (by decide) rfl ?_
  intro p e s m args below meth c s₁ B hml hv
  obtain ⟨rfl, hsz, hP, hK, hD0, hev⟩ := hv
  have hx := B.exec
  have hb := B.bytes
  have hr := B.returns
  have hts := atoms_spec (ws := wsX1_shift) B.pre
  have hown : s.vm.findClass RX1 = some m.cls := findClass_of_methodNamed B.named
  have hlocks := B.notSynchronized
  subst hsz
  have hD := hD0.self (sz := s.heap.size)
  clear hD0
  generalize hAe : va_A [(rd, .inr (1, [.ref rc, .int (nI rg), .int (nI of), .int (nI rdg), .ref rb, .int (nI (8 * has)), .int (nI (min pl (8 * has)))])), (rc, .inr (0, [.ref rcs, .ref rcl])), (rcs, .inl (cI, 32, .inl (ai S))), (rcl, .inl (cI, 32, .inl (ai L))), (rb, .inl (cI, 302, .inl (ai Cf)))] s.heap.size = A at hD hev ⊢
  have hA : ∀ q : Nat, s.heap.size ≤ q → A q := fun q h => by rw [← hAe]; exact Or.inr h
  clear hAe
  have hS : va_S A s.heap s.heap [] := va_S.rf
  have hl := lv_entry ([.ref rd]) (n := 2) (Nat.le_of_ble_eq_true rfl)
  rw [lg_entry_eq]
  generalize (lg_sl ([.ref rd]) ++ List.replicate (2 - (lg_sl ([.ref rd])).length) Slot.unset).toArray = ls at hl ⊢
  have hl : lv_has ls 2 [(0, .ref rd)] := hl
  refine wk_Q (fun QQ hQQ => ?_)
  refine lv_iconst (v := nI 0) hx hb dX1_shift_0 (by decide) ?_
  refine lv_istore_n (lv' := [(1, .int (nI 0)), (0, .ref rd)]) hx hb dX1_shift_1 rfl hl (by decide) rfl (fun ls hl => ?_)
  have key2 : ∀ (n9 : Nat), ∀ (i : Nat), ∀ (rg1 : Nat), ∀ (of1 : Nat), ∀ (pl1 : Nat), 7 - i < n9 → (i ≤ 7) → (rg1 < 1024) → (pl1 + (7 - i) < 1000000000) → (rsh bs 7 (rg, of, pl) = rsh bs (7 - i) (rg1, of1, pl1)) → ∀ (H : Heap) (locs : List Loc), va_P D vwCl [(rd, .inr (1, [.ref rc, .int (nI rg1), .int (nI of1), .int (nI rdg), .ref rb, .int (nI (8 * has)), .int (nI (min pl1 (8 * has)))])), (rc, .inr (0, [.ref rcs, .ref rcl])), (rcs, .inl (cI, 32, .inl (ai S))), (rcl, .inl (cI, 32, .inl (ai L))), (rb, .inl (cI, 302, .inl (ai Cf)))] H → va_D A [(rd, .inr (1, [.ref rc, .int (nI rg1), .int (nI of1), .int (nI rdg), .ref rb, .int (nI (8 * has)), .int (nI (min pl1 (8 * has)))])), (rc, .inr (0, [.ref rcs, .ref rcl])), (rcs, .inl (cI, 32, .inl (ai S))), (rcl, .inl (cI, 32, .inl (ai L))), (rb, .inl (cI, 302, .inl (ai Cf)))] → va_S A s.heap H locs → ∀ (ls : Array Slot), lv_has ls 2 [(0, .ref rd), (1, .int (nI i))] → W p l e (headSpec wsX1_shift ({ frames := 2, cells := 0, slots := 0, locals := 41 })).room s m [.ref rd].toArray below meth c H locs 0 0 QQ (F0 m 2 ls []) := by
    clear hP hD hS hl
    intro n9
    induction n9 with
    | zero => intro i rg1 of1 pl1 h9; exact absurd h9 (Nat.not_lt_zero _)
    | succ n9 ih9 =>
      intro i rg1 of1 pl1 h9 hi hrgi hpli hsh H locs hP hD hS ls hl
      refine lv_iload_n hx hb dX1_shift_2 rfl (lv_at hl 1 rfl) ?_
      refine lv_bipush (v := nI 7) hx hb dX1_shift_3 (by decide) ?_
      refine wk_ge (tgt := 38) hx hb dX1_shift_5 (by decide) (by omega) (by omega) (fun c_5 => ?_) (fun c_5 => ?_)
      · rw [hQQ]
        exact W.vret hx hb hr (fun t ht hW => ⟨⟨(rg1, of1, pl1), rfl, by rw [hsh]; first | (rw [rsh_ge _ _ (by show 256 ≤ rg1; omega)]; done) | (rw [show 7 - i = 0 from by omega]; rfl), by rw [ht]; exact hP, va_K.moved hW.alike hK, hD⟩, hS.F ht⟩) hS.2.2 dX1_shift_38
      · refine lv_aload_n hx hb dX1_shift_8 rfl (lv_at hl 0 rfl) ?_
        refine va_get (D := D) (ci := 1) (v := .int (nI rg1)) (C := RX1) (T := TX1) (N := 7) hx hb hts iw_k_X1_shift_1 hown hK hP 0 rfl rfl 1 (by decide) (hts (.fieldLink RX1 39 "BinStreams$Reader" "range" "I") (by decide +kernel)) (fun _ h9 => h9) rfl dX1_shift_9 ?_
        refine lv_sipush (v := nI 256) hx hb dX1_shift_12 (by decide) ?_
        refine wk_ge (tgt := 38) hx hb dX1_shift_15 (by decide) (by omega) (by omega) (fun c_15 => ?_) (fun c_15 => ?_)
        · rw [hQQ]
          exact W.vret hx hb hr (fun t ht hW => ⟨⟨(rg1, of1, pl1), rfl, by rw [hsh]; first | (rw [rsh_ge _ _ (by show 256 ≤ rg1; omega)]; done) | (rw [show 7 - i = 0 from by omega]; rfl), by rw [ht]; exact hP, va_K.moved hW.alike hK, hD⟩, hS.F ht⟩) hS.2.2 dX1_shift_38
        · refine lv_aload_n hx hb dX1_shift_18 rfl (lv_at hl 0 rfl) ?_
          refine lv_dup hx hb dX1_shift_19 rfl ?_
          refine va_get (D := D) (ci := 1) (v := .int (nI rg1)) (C := RX1) (T := TX1) (N := 7) hx hb hts iw_k_X1_shift_1 hown hK hP 0 rfl rfl 1 (by decide) (hts (.fieldLink RX1 39 "BinStreams$Reader" "range" "I") (by decide +kernel)) (fun _ h9 => h9) rfl dX1_shift_20 ?_
          refine lv_iconst (v := nI 2) hx hb dX1_shift_23 (by decide) ?_
          refine wk_imul hx hb dX1_shift_24 ?_
          refine va_put (D := D) (ci := 1) (v := .int (nI (rg1 * 2))) (ty := .int) (C := RX1) (T := TX1) (N := 7) hx hb hts iw_k_X1_shift_1 tyX1 tyX1_ok nmX1 hown hK hP hD hS 0 rfl rfl 1 (by decide) (hts (.fieldLink RX1 39 "BinStreams$Reader" "range" "I") (by decide +kernel)) (fun _ h9 => h9) rfl (by decide +kernel) rfl rfl (Nat.le_of_ble_eq_true rfl) dX1_shift_25 (fun H locs hP hD hS => ?_)
          have hP : va_P D vwCl [(rd, .inr (1, [.ref rc, .int (nI (rg1 * 2)), .int (nI of1), .int (nI rdg), .ref rb, .int (nI (8 * has)), .int (nI (min pl1 (8 * has)))])), (rc, .inr (0, [.ref rcs, .ref rcl])), (rcs, .inl (cI, 32, .inl (ai S))), (rcl, .inl (cI, 32, .inl (ai L))), (rb, .inl (cI, 302, .inl (ai Cf)))] H := hP
          have hD : va_D A [(rd, .inr (1, [.ref rc, .int (nI (rg1 * 2)), .int (nI of1), .int (nI rdg), .ref rb, .int (nI (8 * has)), .int (nI (min pl1 (8 * has)))])), (rc, .inr (0, [.ref rcs, .ref rcl])), (rcs, .inl (cI, 32, .inl (ai S))), (rcl, .inl (cI, 32, .inl (ai L))), (rb, .inl (cI, 302, .inl (ai Cf)))] := hD
          refine lv_aload_n hx hb dX1_shift_28 rfl (lv_at hl 0 rfl) ?_
          have hPc := hP.sub (ws' := [(rd, .inr (1, [.ref rc, .int (nI (rg1 * 2)), .int (nI of1), .int (nI rdg), .ref rb, .int (nI (8 * has)), .int (nI (min pl1 (8 * has)))])), (rc, .inr (0, [.ref rcs, .ref rcl])), (rcs, .inl (cI, 32, .inl (ai S))), (rcl, .inl (cI, 32, .inl (ai L))), (rb, .inl (cI, 302, .inl (ai Cf)))]) [0, 1, 2, 3, 4] rfl
          have hDc := hD.sub (ws' := [(rd, .inr (1, [.ref rc, .int (nI (rg1 * 2)), .int (nI of1), .int (nI rdg), .ref rb, .int (nI (8 * has)), .int (nI (min pl1 (8 * has)))])), (rc, .inr (0, [.ref rcs, .ref rcl])), (rcs, .inl (cI, 32, .inl (ai S))), (rcl, .inl (cI, 32, .inl (ai L))), (rb, .inl (cI, 302, .inl (ai Cf)))]) [0, 1, 2, 3, 4] (by decide) rfl
          have hFc := va_free (wc := [(rd, .inr (1, [.ref rc, .int (nI (rg1 * 2)), .int (nI of1), .int (nI rdg), .ref rb, .int (nI (8 * has)), .int (nI (min pl1 (8 * has)))])), (rc, .inr (0, [.ref rcs, .ref rcl])), (rcs, .inl (cI, 32, .inl (ai S))), (rcl, .inl (cI, 32, .inl (ai L))), (rb, .inl (cI, 302, .inl (ai Cf)))]) hD hS hA [0, 1, 2, 3, 4] rfl
          refine va_callv (va_runV (As := []) (rest := []) ⟨hx, hb, hml, hown, hts⟩ (k_X1_takeBit l D cI rd rc rcs rcl rb H.size pl1 has (rg1 * 2) of1 rdg S L Cf bs (by exact hbs) (by exact hC) (by omega) (by omega)) (cwV 0 hts gX1_shift_X1_takeBit rfl rfl rfl (by decide +kernel) ⟨Nat.le_of_ble_eq_true rfl, Nat.le_of_ble_eq_true rfl⟩) ⟨kP_blind, va_recv hK hPc (ci := 1) (q0 := 0) rfl rfl, kP_pre hPc hK hDc evo_none⟩ rfl rfl hl.1 rfl (lv_room (Nat.le_of_ble_eq_true rfl)) dX1_shift_29 ⟨Nat.le_of_ble_eq_true rfl, Nat.le_of_ble_eq_true rfl⟩) hS (fun q _ h => hFc q h) hFc (fun u t H1 locs ht hvm hw_1 hB hz1 hk1 hS => ?_)
          obtain ⟨hP1, hK1, hD1⟩ := hB
          rw [ht] at hP1
          obtain ⟨hP, hD⟩ := va_join (wc := [(rd, .inr (1, [.ref rc, .int (nI (rg1 * 2)), .int (nI of1), .int (nI rdg), .ref rb, .int (nI (8 * has)), .int (nI (min pl1 (8 * has)))])), (rc, .inr (0, [.ref rcs, .ref rcl])), (rcs, .inl (cI, 32, .inl (ai S))), (rcl, .inl (cI, 32, .inl (ai L))), (rb, .inl (cI, 302, .inl (ai Cf)))]) (wr := []) (w1 := [(rd, .inr (1, [.ref rc, .int (nI (rg1 * 2)), .int (nI (2 * of1 + bs pl1)), .int (nI rdg), .ref rb, .int (nI (8 * has)), .int (nI (min (pl1 + 1) (8 * has)))])), (rc, .inr (0, [.ref rcs, .ref rcl])), (rcs, .inl (cI, 32, .inl (ai S))), (rcl, .inl (cI, 32, .inl (ai L))), (rb, .inl (cI, 302, .inl (ai Cf)))]) hP hD [0, 1, 2, 3, 4] [] rfl rfl (by decide) (by decide) hk1 hFc hP1 hD1
          clear hP1 hK1 hD1 hPc hDc hFc hk1 hz1 hvm ht
          have hP : va_P D vwCl [(rd, .inr (1, [.ref rc, .int (nI (rg1 * 2)), .int (nI (2 * of1 + bs pl1)), .int (nI rdg), .ref rb, .int (nI (8 * has)), .int (nI (min (pl1 + 1) (8 * has)))])), (rc, .inr (0, [.ref rcs, .ref rcl])), (rcs, .inl (cI, 32, .inl (ai S))), (rcl, .inl (cI, 32, .inl (ai L))), (rb, .inl (cI, 302, .inl (ai Cf)))] H1 := hP.sub [0, 1, 2, 3, 4] rfl
          have hD : va_D A [(rd, .inr (1, [.ref rc, .int (nI (rg1 * 2)), .int (nI (2 * of1 + bs pl1)), .int (nI rdg), .ref rb, .int (nI (8 * has)), .int (nI (min (pl1 + 1) (8 * has)))])), (rc, .inr (0, [.ref rcs, .ref rcl])), (rcs, .inl (cI, 32, .inl (ai S))), (rcl, .inl (cI, 32, .inl (ai L))), (rb, .inl (cI, 302, .inl (ai Cf)))] := hD.sub [0, 1, 2, 3, 4] (by decide) rfl
          try dsimp only at hw_1
          refine lv_iinc (v := nI (i + 1)) (lv' := [(1, .int (nI (i + 1))), (0, .ref rd)]) hx hb dX1_shift_32 hl (k := 1) rfl (by exact nI_add _ 1) (by decide) rfl (fun ls hl => ?_)
          refine lv_goto (tgt := 2) hx hb dX1_shift_35 (by decide) ?_
          exact ih9 (i + 1) (rg1 * 2) (2 * of1 + bs pl1) (pl1 + 1) (by omega) (by omega) (by omega) (by omega) (by rw [hsh, show 7 - i = (7 - (i + 1)) + 1 from by omega, rsh_lt _ _ (by show rg1 < 256; omega), Nat.mul_comm rg1 2]) _ _ hP hD hS ls (lv_sub hl [1, 0] rfl)
  exact key2 ((7 - 0) + 1) 0 rg of pl (by omega) (by omega) (by omega) (by omega) (by rfl) _ _ hP hD hS ls (lv_sub hl [1, 0] rfl)

theorem iw_k_X1_decide_0 : ∀ w ∈ u_ws RX0 TX0 2, w ∈ wsX1_decide := by decide +kernel
theorem iw_k_X1_decide_1 : ∀ w ∈ u_ws RX1 TX1 7, w ∈ wsX1_decide := by decide +kernel
set_option maxHeartbeats 1000000 in
set_option maxRecDepth 100000 in
/-- a decision is read -/
theorem k_X1_decide (l : Launch) (D : va_G) (cI : ClassId) (ep : EP) (rd rc rcs rcl rb : Nat) (sz : Nat) (ct : Nat) (pl : Nat) (has : Nat) (rg : Nat) (of : Nat) (rdg : Nat) (S : Nat → Nat) (L : Nat → Nat) (Cf : Nat → Nat) (bs : Nat → Nat) (hc : ct < 32) (hcS : ∀ j, j < 32 → S j < 63) (hcL : ∀ j, j < 32 → L j < 2) (hbs : BS Cf has bs) (hC : ∀ j, j < has → Cf j < 256) (hhas : has ≤ 302) (hpl : pl < 1000000000) (hrg : 256 ≤ rg) (hrg2 : rg < 512) (hof : of < rg) (hpl2 : pl + 7 < 1000000000) : Met l yX1_decide wsX1_decide ({ frames := 3, cells := 0, slots := 0, locals := 62 }) (kP D (some ep) [.ref rd, .int (nI ct)] [(cI, .int)] [(rd, .inr (1, [.ref rc, .int (nI rg), .int (nI of), .int (nI rdg), .ref rb, .int (nI (8 * has)), .int (nI (min pl (8 * has)))])), (rc, .inr (0, [.ref rcs, .ref rcl])), (rcs, .inl (cI, 32, .inl (ai S))), (rcl, .inl (cI, 32, .inl (ai L))), (rb, .inl (cI, 302, .inl (ai Cf)))] sz) (va_Qi (fun (r : Int32) (u : Nat × Nat × Nat) => match u with | (rg1, of1, pl1) => r = nI (rdB rg of (Rt (4 * S ct + rg / 64 % 4)) (L ct)) ∧ (rg1, of1, pl1) = rdX bs (rg, of, pl) (Rt (4 * S ct + rg / 64 % 4))) (fun u t => match u with | (rg1, of1, pl1) => kB D [(cI, .int)] (va_A [(rd, .inr (1, [.ref rc, .int (nI rg), .int (nI of), .int (nI rdg), .ref rb, .int (nI (8 * has)), .int (nI (min pl (8 * has)))])), (rc, .inr (0, [.ref rcs, .ref rcl])), (rcs, .inl (cI, 32, .inl (ai S))), (rcl, .inl (cI, 32, .inl (ai L))), (rb, .inl (cI, 302, .inl (ai Cf)))] sz) [(rd, .inr (1, [.ref rc, .int (nI rg1), .int (nI of1), .int (nI rdg), .ref rb, .int (nI (8 * has)), .int (nI (min pl1 (8 * has)))])), (rc, .inr (0, [.ref rcs, .ref rcl])), (rcs, .inl (cI, 32, .inl (ai (lS S L ct (rdB rg of (Rt (4 * S ct + rg / 64 % 4)) (L ct)))))), (rcl, .inl (cI, 32, .inl (ai (lL S L ct (rdB rg of (Rt (4 * S ct + rg / 64 % 4)) (L ct)))))), (rb, .inl (cI, 302, .inl (ai Cf)))] t) (va_A [(rd, .inr (1, [.ref rc, .int (nI rg), .int (nI of), .int (nI rdg), .ref rb, .int (nI (8 * has)), .int (nI (min pl (8 * has)))])), (rc, .inr (0, [.ref rcs, .ref rcl])), (rcs, .inl (cI, 32, .inl (ai S))), (rcl, .inl (cI, 32, .inl (ai L))), (rb, .inl (cI, 302, .inl (ai Cf)))] sz)) 0 0 (va_A [(rd, .inr (1, [.ref rc, .int (nI rg), .int (nI of), .int (nI rdg), .ref rb, .int (nI (8 * has)), .int (nI (min pl (8 * has)))])), (rc, .inr (0, [.ref rcs, .ref rcl])), (rcs, .inl (cI, 32, .inl (ai S))), (rcl, .inl (cI, 32, .inl (ai L))), (rb, .inl (cI, 302, .inl (ai Cf)))] sz) := by
  refine Met.ofW (cc := cX1_decide) (maxL := 4) (ret := (some .int)) (by decide) rfl ?_
  intro p e s m args below meth c s₁ B hml hv
  obtain ⟨rfl, hsz, hP, hK, hD0, hev⟩ := hv
  have hx := B.exec
  have hb := B.bytes
  have hr := B.returns
  have hts := atoms_spec (ws := wsX1_decide) B.pre
  have hown : s.vm.findClass RX1 = some m.cls := findClass_of_methodNamed B.named
  have hlocks := B.notSynchronized
  subst hsz
  have hD := hD0.self (sz := s.heap.size)
  clear hD0
  generalize hAe : va_A [(rd, .inr (1, [.ref rc, .int (nI rg), .int (nI of), .int (nI rdg), .ref rb, .int (nI (8 * has)), .int (nI (min pl (8 * has)))])), (rc, .inr (0, [.ref rcs, .ref rcl])), (rcs, .inl (cI, 32, .inl (ai S))), (rcl, .inl (cI, 32, .inl (ai L))), (rb, .inl (cI, 302, .inl (ai Cf)))] s.heap.size = A at hD hev ⊢
  have hev1 : ev ep A s s.heap := hev
  obtain ⟨⟨hZR, hTR, hZT, hTT⟩, hNR, hNT, hNC1, hNC2⟩ := hev1
  have hA : ∀ q : Nat, s.heap.size ≤ q → A q := fun q h => by rw [← hAe]; exact Or.inr h
  clear hAe
  have hS : va_S A s.heap s.heap [] := va_S.rf
  have hl := lv_entry ([.ref rd, .int (nI ct)]) (n := 4) (Nat.le_of_ble_eq_true rfl)
  rw [lg_entry_eq]
  generalize (lg_sl ([.ref rd, .int (nI ct)]) ++ List.replicate (4 - (lg_sl ([.ref rd, .int (nI ct)])).length) Slot.unset).toArray = ls at hl ⊢
  have hl : lv_has ls 4 [(0, .ref rd), (1, .int (nI ct))] := hl
  have hSc := hcS ct hc
  have hLc := hcL ct hc
  have hR := Rt_in (S ct) hSc (rg / 64 % 4) (by omega)
  refine lv_aload_n hx hb dX1_decide_0 rfl (lv_at hl 0 rfl) ?_
  refine va_get (D := D) (ci := 1) (v := .ref rc) (C := RX1) (T := TX1) (N := 7) hx hb hts iw_k_X1_decide_1 hown hK hP 0 rfl rfl 0 (by decide) (hts (.fieldLink RX1 12 "BinStreams$Reader" "contexts" "LBinStreams$Contexts;") (by decide +kernel)) (fun _ h9 => h9) rfl dX1_decide_1 ?_
  refine lv_iload_n hx hb dX1_decide_4 rfl (lv_at hl 1 rfl) ?_
  refine lv_aload_n hx hb dX1_decide_5 rfl (lv_at hl 0 rfl) ?_
  refine va_get (D := D) (ci := 1) (v := .int (nI rg)) (C := RX1) (T := TX1) (N := 7) hx hb hts iw_k_X1_decide_1 hown hK hP 0 rfl rfl 1 (by decide) (hts (.fieldLink RX1 39 "BinStreams$Reader" "range" "I") (by decide +kernel)) (fun _ h9 => h9) rfl dX1_decide_6 ?_
  have hPc := hP.sub (ws' := [(rc, .inr (0, [.ref rcs, .ref rcl])), (rcs, .inl (cI, 32, .inl (ai S))), (rcl, .inl (cI, 32, .inl (ai L)))]) [1, 2, 3] rfl
  have hDc := hD.sub (ws' := [(rc, .inr (0, [.ref rcs, .ref rcl])), (rcs, .inl (cI, 32, .inl (ai S))), (rcl, .inl (cI, 32, .inl (ai L)))]) [1, 2, 3] (by decide) rfl
  have hFc := va_free (wc := [(rc, .inr (0, [.ref rcs, .ref rcl])), (rcs, .inl (cI, 32, .inl (ai S))), (rcl, .inl (cI, 32, .inl (ai L)))]) hD hS hA [1, 2, 3] rfl
  refine va_calli (va_runV (As := [.int (nI ct), .int (nI rg)]) (rest := []) ⟨hx, hb, hml, hown, hts⟩ (k_X0_unlikelyPart l D cI ep rc rcs rcl s.heap.size ct rg S L (by omega) (by exact hSc) (by omega)) (cwV 2 hts gX1_decide_X0_unlikelyPart rfl rfl rfl (by decide +kernel) ⟨Nat.le_of_ble_eq_true rfl, Nat.le_of_ble_eq_true rfl⟩) ⟨kP_blind, va_recv hK hPc (ci := 0) (q0 := 0) rfl rfl, kP_pre hPc hK hDc (evo_to hev hS hFc)⟩ rfl rfl hl.1 rfl (lv_room (Nat.le_of_ble_eq_true rfl)) dX1_decide_9 ⟨Nat.le_of_ble_eq_true rfl, Nat.le_of_ble_eq_true rfl⟩) hS (fun q _ h => hFc q h) hFc (fun r_1 u t H1 locs ht hvm hw_1 hB hz1 hk1 hS => ?_)
  obtain ⟨hP1, hK1, hD1⟩ := hB
  rw [ht] at hP1
  obtain ⟨hP, hD⟩ := va_join (wc := [(rc, .inr (0, [.ref rcs, .ref rcl])), (rcs, .inl (cI, 32, .inl (ai S))), (rcl, .inl (cI, 32, .inl (ai L)))]) (wr := [(rd, .inr (1, [.ref rc, .int (nI rg), .int (nI of), .int (nI rdg), .ref rb, .int (nI (8 * has)), .int (nI (min pl (8 * has)))])), (rb, .inl (cI, 302, .inl (ai Cf)))]) (w1 := [(rc, .inr (0, [.ref rcs, .ref rcl])), (rcs, .inl (cI, 32, .inl (ai S))), (rcl, .inl (cI, 32, .inl (ai L)))]) hP hD [1, 2, 3] [0, 4] rfl rfl (by decide) (by decide) hk1 hFc hP1 hD1
  clear hP1 hK1 hD1 hPc hDc hFc hk1 hz1 hvm ht
  have hP : va_P D vwCl [(rd, .inr (1, [.ref rc, .int (nI rg), .int (nI of), .int (nI rdg), .ref rb, .int (nI (8 * has)), .int (nI (min pl (8 * has)))])), (rc, .inr (0, [.ref rcs, .ref rcl])), (rcs, .inl (cI, 32, .inl (ai S))), (rcl, .inl (cI, 32, .inl (ai L))), (rb, .inl (cI, 302, .inl (ai Cf)))] H1 := hP.sub [0, 2, 3, 4, 1] rfl
  have hD : va_D A [(rd, .inr (1, [.ref rc, .int (nI rg), .int (nI of), .int (nI rdg), .ref rb, .int (nI (8 * has)), .int (nI (min pl (8 * has)))])), (rc, .inr (0, [.ref rcs, .ref rcl])), (rcs, .inl (cI, 32, .inl (ai S))), (rcl, .inl (cI, 32, .inl (ai L))), (rb, .inl (cI, 302, .inl (ai Cf)))] := hD.sub [0, 2, 3, 4, 1] (by decide) rfl
  try dsimp only at hw_1
  refine wk_topI (b := Rt (4 * S ct + rg / 64 % 4)) (by exact hw_1) ?_
  refine lv_istore_n (lv' := [(2, .int (nI (Rt (4 * S ct + rg / 64 % 4)))), (0, .ref rd), (1, .int (nI ct))]) hx hb dX1_decide_12 rfl hl (by decide) rfl (fun ls hl => ?_)
  refine lv_aload_n hx hb dX1_decide_13 rfl (lv_at hl 1 rfl) ?_
  refine va_get (D := D) (ci := 1) (v := .ref rc) (C := RX1) (T := TX1) (N := 7) hx hb hts iw_k_X1_decide_1 hown hK hP 0 rfl rfl 0 (by decide) (hts (.fieldLink RX1 12 "BinStreams$Reader" "contexts" "LBinStreams$Contexts;") (by decide +kernel)) (fun _ h9 => h9) rfl dX1_decide_14 ?_
  refine va_get (D := D) (ci := 0) (v := .ref rcl) (C := RX0) (T := TX0) (N := 2) hx hb hts iw_k_X1_decide_0 hown hK hP 1 rfl rfl 1 (by decide) (hts (.fieldLink RX1 56 "BinStreams$Contexts" "likely" "[I") (by decide +kernel)) (fun _ h9 => h9) rfl dX1_decide_17 ?_
  refine lv_iload_n hx hb dX1_decide_20 rfl (lv_at hl 2 rfl) ?_
  refine wk_iald hx hb hK hP 3 0 rfl rfl (by omega) (by decide) dX1_decide_21 ?_
  refine lv_istore_n (lv' := [(3, .int (nI (L ct))), (2, .int (nI (Rt (4 * S ct + rg / 64 % 4)))), (0, .ref rd), (1, .int (nI ct))]) hx hb dX1_decide_22 rfl hl (by decide) rfl (fun ls hl => ?_)
  refine lv_aload_n hx hb dX1_decide_23 rfl (lv_at hl 2 rfl) ?_
  refine lv_dup hx hb dX1_decide_24 rfl ?_
  refine va_get (D := D) (ci := 1) (v := .int (nI rg)) (C := RX1) (T := TX1) (N := 7) hx hb hts iw_k_X1_decide_1 hown hK hP 0 rfl rfl 1 (by decide) (hts (.fieldLink RX1 39 "BinStreams$Reader" "range" "I") (by decide +kernel)) (fun _ h9 => h9) rfl dX1_decide_25 ?_
  refine lv_iload_n hx hb dX1_decide_28 rfl (lv_at hl 1 rfl) ?_
  refine wk_isub hx hb dX1_decide_29 (by omega) ?_
  refine va_put (D := D) (ci := 1) (v := .int (nI (rg - (Rt (4 * S ct + rg / 64 % 4))))) (ty := .int) (C := RX1) (T := TX1) (N := 7) hx hb hts iw_k_X1_decide_1 tyX1 tyX1_ok nmX1 hown hK hP hD hS 0 rfl rfl 1 (by decide) (hts (.fieldLink RX1 39 "BinStreams$Reader" "range" "I") (by decide +kernel)) (fun _ h9 => h9) rfl (by decide +kernel) rfl rfl (Nat.le_of_ble_eq_true rfl) dX1_decide_30 (fun H locs hP hD hS => ?_)
  have hP : va_P D vwCl [(rd, .inr (1, [.ref rc, .int (nI (rg - (Rt (4 * S ct + rg / 64 % 4)))), .int (nI of), .int (nI rdg), .ref rb, .int (nI (8 * has)), .int (nI (min pl (8 * has)))])), (rc, .inr (0, [.ref rcs, .ref rcl])), (rcs, .inl (cI, 32, .inl (ai S))), (rcl, .inl (cI, 32, .inl (ai L))), (rb, .inl (cI, 302, .inl (ai Cf)))] H := hP
  have hD : va_D A [(rd, .inr (1, [.ref rc, .int (nI (rg - (Rt (4 * S ct + rg / 64 % 4)))), .int (nI of), .int (nI rdg), .ref rb, .int (nI (8 * has)), .int (nI (min pl (8 * has)))])), (rc, .inr (0, [.ref rcs, .ref rcl])), (rcs, .inl (cI, 32, .inl (ai S))), (rcl, .inl (cI, 32, .inl (ai L))), (rb, .inl (cI, 302, .inl (ai Cf)))] := hD
  refine lv_aload_n hx hb dX1_decide_33 rfl (lv_at hl 2 rfl) ?_
  refine va_get (D := D) (ci := 1) (v := .int (nI of)) (C := RX1) (T := TX1) (N := 7) hx hb hts iw_k_X1_decide_1 hown hK hP 0 rfl rfl 2 (by decide) (hts (.fieldLink RX1 42 "BinStreams$Reader" "offset" "I") (by decide +kernel)) (fun _ h9 => h9) rfl dX1_decide_34 ?_
  refine lv_aload_n hx hb dX1_decide_37 rfl (lv_at hl 2 rfl) ?_
  refine va_get (D := D) (ci := 1) (v := .int (nI (rg - (Rt (4 * S ct + rg / 64 % 4))))) (C := RX1) (T := TX1) (N := 7) hx hb hts iw_k_X1_decide_1 hown hK hP 0 rfl rfl 1 (by decide) (hts (.fieldLink RX1 39 "BinStreams$Reader" "range" "I") (by decide +kernel)) (fun _ h9 => h9) rfl dX1_decide_38 ?_
  refine wk_lt (tgt := 66) hx hb dX1_decide_41 (by decide) (by omega) (by omega) (fun c_41 => ?_) (fun c_41 => ?_)
  · refine lv_aload_n hx hb dX1_decide_66 rfl (lv_at hl 2 rfl) ?_
    refine va_get (D := D) (ci := 1) (v := .ref rc) (C := RX1) (T := TX1) (N := 7) hx hb hts iw_k_X1_decide_1 hown hK hP 0 rfl rfl 0 (by decide) (hts (.fieldLink RX1 12 "BinStreams$Reader" "contexts" "LBinStreams$Contexts;") (by decide +kernel)) (fun _ h9 => h9) rfl dX1_decide_67 ?_
    refine lv_iload_n hx hb dX1_decide_70 rfl (lv_at hl 3 rfl) ?_
    refine lv_iload_n hx hb dX1_decide_71 rfl (lv_at hl 0 rfl) ?_
    have hPc := hP.sub (ws' := [(rc, .inr (0, [.ref rcs, .ref rcl])), (rcs, .inl (cI, 32, .inl (ai S))), (rcl, .inl (cI, 32, .inl (ai L)))]) [1, 2, 3] rfl
    have hDc := hD.sub (ws' := [(rc, .inr (0, [.ref rcs, .ref rcl])), (rcs, .inl (cI, 32, .inl (ai S))), (rcl, .inl (cI, 32, .inl (ai L)))]) [1, 2, 3] (by decide) rfl
    have hFc := va_free (wc := [(rc, .inr (0, [.ref rcs, .ref rcl])), (rcs, .inl (cI, 32, .inl (ai S))), (rcl, .inl (cI, 32, .inl (ai L)))]) hD hS hA [1, 2, 3] rfl
    refine va_callv (va_runV (As := [.int (nI ct), .int (nI (L ct))]) (rest := []) ⟨hx, hb, hml, hown, hts⟩ (k_X0_learn l D cI ep rc rcs rcl H.size ct (L ct) S L (by omega) (by omega) (by exact hSc) (by exact hLc)) (cwV 2 hts gX1_decide_X0_learn rfl rfl rfl (by decide +kernel) ⟨Nat.le_of_ble_eq_true rfl, Nat.le_of_ble_eq_true rfl⟩) ⟨kP_blind, va_recv hK hPc (ci := 0) (q0 := 0) rfl rfl, kP_pre hPc hK hDc (evo_to hev hS hFc)⟩ rfl rfl hl.1 rfl (lv_room (Nat.le_of_ble_eq_true rfl)) dX1_decide_72 ⟨Nat.le_of_ble_eq_true rfl, Nat.le_of_ble_eq_true rfl⟩) hS (fun q _ h => hFc q h) hFc (fun u t H1 locs ht hvm hw_2 hB hz1 hk1 hS => ?_)
    obtain ⟨hP1, hK1, hD1⟩ := hB
    rw [ht] at hP1
    obtain ⟨hP, hD⟩ := va_join (wc := [(rc, .inr (0, [.ref rcs, .ref rcl])), (rcs, .inl (cI, 32, .inl (ai S))), (rcl, .inl (cI, 32, .inl (ai L)))]) (wr := [(rd, .inr (1, [.ref rc, .int (nI (rg - (Rt (4 * S ct + rg / 64 % 4)))), .int (nI of), .int (nI rdg), .ref rb, .int (nI (8 * has)), .int (nI (min pl (8 * has)))])), (rb, .inl (cI, 302, .inl (ai Cf)))]) (w1 := [(rc, .inr (0, [.ref rcs, .ref rcl])), (rcs, .inl (cI, 32, .inl (ai (lS S L ct (L ct))))), (rcl, .inl (cI, 32, .inl (ai (lL S L ct (L ct)))))]) hP hD [1, 2, 3] [0, 4] rfl rfl (by decide) (by decide) hk1 hFc hP1 hD1
    clear hP1 hK1 hD1 hPc hDc hFc hk1 hz1 hvm ht
    have hP : va_P D vwCl [(rd, .inr (1, [.ref rc, .int (nI (rg - (Rt (4 * S ct + rg / 64 % 4)))), .int (nI of), .int (nI rdg), .ref rb, .int (nI (8 * has)), .int (nI (min pl (8 * has)))])), (rc, .inr (0, [.ref rcs, .ref rcl])), (rcs, .inl (cI, 32, .inl (ai (lS S L ct (L ct))))), (rcl, .inl (cI, 32, .inl (ai (lL S L ct (L ct))))), (rb, .inl (cI, 302, .inl (ai Cf)))] H1 := hP.sub [0, 2, 3, 4, 1] rfl
    have hD : va_D A [(rd, .inr (1, [.ref rc, .int (nI (rg - (Rt (4 * S ct + rg / 64 % 4)))), .int (nI of), .int (nI rdg), .ref rb, .int (nI (8 * has)), .int (nI (min pl (8 * has)))])), (rc, .inr (0, [.ref rcs, .ref rcl])), (rcs, .inl (cI, 32, .inl (ai (lS S L ct (L ct))))), (rcl, .inl (cI, 32, .inl (ai (lL S L ct (L ct))))), (rb, .inl (cI, 302, .inl (ai Cf)))] := hD.sub [0, 2, 3, 4, 1] (by decide) rfl
    try dsimp only at hw_2
    refine lv_aload_n hx hb dX1_decide_75 rfl (lv_at hl 2 rfl) ?_
    have hPc := hP.sub (ws' := [(rd, .inr (1, [.ref rc, .int (nI (rg - (Rt (4 * S ct + rg / 64 % 4)))), .int (nI of), .int (nI rdg), .ref rb, .int (nI (8 * has)), .int (nI (min pl (8 * has)))])), (rc, .inr (0, [.ref rcs, .ref rcl])), (rcs, .inl (cI, 32, .inl (ai (lS S L ct (L ct))))), (rcl, .inl (cI, 32, .inl (ai (lL S L ct (L ct))))), (rb, .inl (cI, 302, .inl (ai Cf)))]) [0, 1, 2, 3, 4] rfl
    have hDc := hD.sub (ws' := [(rd, .inr (1, [.ref rc, .int (nI (rg - (Rt (4 * S ct + rg / 64 % 4)))), .int (nI of), .int (nI rdg), .ref rb, .int (nI (8 * has)), .int (nI (min pl (8 * has)))])), (rc, .inr (0, [.ref rcs, .ref rcl])), (rcs, .inl (cI, 32, .inl (ai (lS S L ct (L ct))))), (rcl, .inl (cI, 32, .inl (ai (lL S L ct (L ct))))), (rb, .inl (cI, 302, .inl (ai Cf)))]) [0, 1, 2, 3, 4] (by decide) rfl
    have hFc := va_free (wc := [(rd, .inr (1, [.ref rc, .int (nI (rg - (Rt (4 * S ct + rg / 64 % 4)))), .int (nI of), .int (nI rdg), .ref rb, .int (nI (8 * has)), .int (nI (min pl (8 * has)))])), (rc, .inr (0, [.ref rcs, .ref rcl])), (rcs, .inl (cI, 32, .inl (ai (lS S L ct (L ct))))), (rcl, .inl (cI, 32, .inl (ai (lL S L ct (L ct))))), (rb, .inl (cI, 302, .inl (ai Cf)))]) hD hS hA [0, 1, 2, 3, 4] rfl
    refine va_callv (va_runV (As := []) (rest := []) ⟨hx, hb, hml, hown, hts⟩ (k_X1_shift l D cI rd rc rcs rcl rb H1.size pl has (rg - (Rt (4 * S ct + rg / 64 % 4))) of rdg (lS S L ct (L ct)) (lL S L ct (L ct)) Cf bs (by exact hbs) (by exact hC) (by omega) (by omega) (by omega) (by omega)) (cwV 0 hts gX1_decide_X1_shift rfl rfl rfl (by decide +kernel) ⟨Nat.le_of_ble_eq_true rfl, Nat.le_of_ble_eq_true rfl⟩) ⟨kP_blind, va_recv hK hPc (ci := 1) (q0 := 0) rfl rfl, kP_pre hPc hK hDc evo_none⟩ rfl rfl hl.1 rfl (lv_room (Nat.le_of_ble_eq_true rfl)) dX1_decide_76 ⟨Nat.le_of_ble_eq_true rfl, Nat.le_of_ble_eq_true rfl⟩) hS (fun q _ h => hFc q h) hFc (fun u t H1 locs ht hvm hsh hB hz1 hk1 hS => ?_)
    obtain ⟨rg1, of1, pl1⟩ := u
    obtain ⟨hP1, hK1, hD1⟩ := hB
    rw [ht] at hP1
    obtain ⟨hP, hD⟩ := va_join (wc := [(rd, .inr (1, [.ref rc, .int (nI (rg - (Rt (4 * S ct + rg / 64 % 4)))), .int (nI of), .int (nI rdg), .ref rb, .int (nI (8 * has)), .int (nI (min pl (8 * has)))])), (rc, .inr (0, [.ref rcs, .ref rcl])), (rcs, .inl (cI, 32, .inl (ai (lS S L ct (L ct))))), (rcl, .inl (cI, 32, .inl (ai (lL S L ct (L ct))))), (rb, .inl (cI, 302, .inl (ai Cf)))]) (wr := []) (w1 := [(rd, .inr (1, [.ref rc, .int (nI rg1), .int (nI of1), .int (nI rdg), .ref rb, .int (nI (8 * has)), .int (nI (min pl1 (8 * has)))])), (rc, .inr (0, [.ref rcs, .ref rcl])), (rcs, .inl (cI, 32, .inl (ai (lS S L ct (L ct))))), (rcl, .inl (cI, 32, .inl (ai (lL S L ct (L ct))))), (rb, .inl (cI, 302, .inl (ai Cf)))]) hP hD [0, 1, 2, 3, 4] [] rfl rfl (by decide) (by decide) hk1 hFc hP1 hD1
    clear hP1 hK1 hD1 hPc hDc hFc hk1 hz1 hvm ht
    have hP : va_P D vwCl [(rd, .inr (1, [.ref rc, .int (nI rg1), .int (nI of1), .int (nI rdg), .ref rb, .int (nI (8 * has)), .int (nI (min pl1 (8 * has)))])), (rc, .inr (0, [.ref rcs, .ref rcl])), (rcs, .inl (cI, 32, .inl (ai (lS S L ct (L ct))))), (rcl, .inl (cI, 32, .inl (ai (lL S L ct (L ct))))), (rb, .inl (cI, 302, .inl (ai Cf)))] H1 := hP.sub [0, 1, 2, 3, 4] rfl
    have hD : va_D A [(rd, .inr (1, [.ref rc, .int (nI rg1), .int (nI of1), .int (nI rdg), .ref rb, .int (nI (8 * has)), .int (nI (min pl1 (8 * has)))])), (rc, .inr (0, [.ref rcs, .ref rcl])), (rcs, .inl (cI, 32, .inl (ai (lS S L ct (L ct))))), (rcl, .inl (cI, 32, .inl (ai (lL S L ct (L ct))))), (rb, .inl (cI, 302, .inl (ai Cf)))] := hD.sub [0, 1, 2, 3, 4] (by decide) rfl
    try dsimp only at hsh
    refine lv_iload_n hx hb dX1_decide_79 rfl (lv_at hl 0 rfl) ?_
    have he_4 : (lS S L ct (L ct)) = (lS S L ct (rdB rg of (Rt (4 * S ct + rg / 64 % 4)) (L ct))) := by unfold rdB; rw [if_pos (by omega)]
    have hP : va_P D vwCl [(rd, .inr (1, [.ref rc, .int (nI rg1), .int (nI of1), .int (nI rdg), .ref rb, .int (nI (8 * has)), .int (nI (min pl1 (8 * has)))])), (rc, .inr (0, [.ref rcs, .ref rcl])), (rcs, .inl (cI, 32, .inl (ai (lS S L ct (rdB rg of (Rt (4 * S ct + rg / 64 % 4)) (L ct)))))), (rcl, .inl (cI, 32, .inl (ai (lL S L ct (L ct))))), (rb, .inl (cI, 302, .inl (ai Cf)))] H1 := (congrArg (fun z9 : Nat → Nat => va_P D vwCl [(rd, .inr (1, [.ref rc, .int (nI rg1), .int (nI of1), .int (nI rdg), .ref rb, .int (nI (8 * has)), .int (nI (min pl1 (8 * has)))])), (rc, .inr (0, [.ref rcs, .ref rcl])), (rcs, .inl (cI, 32, .inl (ai z9))), (rcl, .inl (cI, 32, .inl (ai (lL S L ct (L ct))))), (rb, .inl (cI, 302, .inl (ai Cf)))] H1) he_4).mp hP
    have hD : va_D A [(rd, .inr (1, [.ref rc, .int (nI rg1), .int (nI of1), .int (nI rdg), .ref rb, .int (nI (8 * has)), .int (nI (min pl1 (8 * has)))])), (rc, .inr (0, [.ref rcs, .ref rcl])), (rcs, .inl (cI, 32, .inl (ai (lS S L ct (rdB rg of (Rt (4 * S ct + rg / 64 % 4)) (L ct)))))), (rcl, .inl (cI, 32, .inl (ai (lL S L ct (L ct))))), (rb, .inl (cI, 302, .inl (ai Cf)))] := (congrArg (fun z9 : Nat → Nat => va_D A [(rd, .inr (1, [.ref rc, .int (nI rg1), .int (nI of1), .int (nI rdg), .ref rb, .int (nI (8 * has)), .int (nI (min pl1 (8 * has)))])), (rc, .inr (0, [.ref rcs, .ref rcl])), (rcs, .inl (cI, 32, .inl (ai z9))), (rcl, .inl (cI, 32, .inl (ai (lL S L ct (L ct))))), (rb, .inl (cI, 302, .inl (ai Cf)))]) he_4).mp hD
    have he_5 : (lL S L ct (L ct)) = (lL S L ct (rdB rg of (Rt (4 * S ct + rg / 64 % 4)) (L ct))) := by unfold rdB; rw [if_pos (by omega)]
    have hP : va_P D vwCl [(rd, .inr (1, [.ref rc, .int (nI rg1), .int (nI of1), .int (nI rdg), .ref rb, .int (nI (8 * has)), .int (nI (min pl1 (8 * has)))])), (rc, .inr (0, [.ref rcs, .ref rcl])), (rcs, .inl (cI, 32, .inl (ai (lS S L ct (rdB rg of (Rt (4 * S ct + rg / 64 % 4)) (L ct)))))), (rcl, .inl (cI, 32, .inl (ai (lL S L ct (rdB rg of (Rt (4 * S ct + rg / 64 % 4)) (L ct)))))), (rb, .inl (cI, 302, .inl (ai Cf)))] H1 := (congrArg (fun z9 : Nat → Nat => va_P D vwCl [(rd, .inr (1, [.ref rc, .int (nI rg1), .int (nI of1), .int (nI rdg), .ref rb, .int (nI (8 * has)), .int (nI (min pl1 (8 * has)))])), (rc, .inr (0, [.ref rcs, .ref rcl])), (rcs, .inl (cI, 32, .inl (ai (lS S L ct (rdB rg of (Rt (4 * S ct + rg / 64 % 4)) (L ct)))))), (rcl, .inl (cI, 32, .inl (ai z9))), (rb, .inl (cI, 302, .inl (ai Cf)))] H1) he_5).mp hP
    have hD : va_D A [(rd, .inr (1, [.ref rc, .int (nI rg1), .int (nI of1), .int (nI rdg), .ref rb, .int (nI (8 * has)), .int (nI (min pl1 (8 * has)))])), (rc, .inr (0, [.ref rcs, .ref rcl])), (rcs, .inl (cI, 32, .inl (ai (lS S L ct (rdB rg of (Rt (4 * S ct + rg / 64 % 4)) (L ct)))))), (rcl, .inl (cI, 32, .inl (ai (lL S L ct (rdB rg of (Rt (4 * S ct + rg / 64 % 4)) (L ct)))))), (rb, .inl (cI, 302, .inl (ai Cf)))] := (congrArg (fun z9 : Nat → Nat => va_D A [(rd, .inr (1, [.ref rc, .int (nI rg1), .int (nI of1), .int (nI rdg), .ref rb, .int (nI (8 * has)), .int (nI (min pl1 (8 * has)))])), (rc, .inr (0, [.ref rcs, .ref rcl])), (rcs, .inl (cI, 32, .inl (ai (lS S L ct (rdB rg of (Rt (4 * S ct + rg / 64 % 4)) (L ct)))))), (rcl, .inl (cI, 32, .inl (ai z9))), (rb, .inl (cI, 302, .inl (ai Cf)))]) he_5).mp hD
    exact W.iret (v := nI (L ct)) hx hb hr (fun t ht hW => ⟨⟨nI (L ct), (rg1, of1, pl1), rfl, ⟨by unfold rdB; rw [if_pos (by omega)], by rw [hsh]; unfold rdX; rw [if_pos (by dsimp only; omega)]⟩, by rw [ht]; exact hP, va_K.moved hW.alike hK, hD⟩, hS.F ht⟩) hS.2.2 dX1_decide_80
  · refine lv_aload_n hx hb dX1_decide_44 rfl (lv_at hl 2 rfl) ?_
    refine lv_dup hx hb dX1_decide_45 rfl ?_
    refine va_get (D := D) (ci := 1) (v := .int (nI of)) (C := RX1) (T := TX1) (N := 7) hx hb hts iw_k_X1_decide_1 hown hK hP 0 rfl rfl 2 (by decide) (hts (.fieldLink RX1 42 "BinStreams$Reader" "offset" "I") (by decide +kernel)) (fun _ h9 => h9) rfl dX1_decide_46 ?_
    refine lv_aload_n hx hb dX1_decide_49 rfl (lv_at hl 2 rfl) ?_
    refine va_get (D := D) (ci := 1) (v := .int (nI (rg - (Rt (4 * S ct + rg / 64 % 4))))) (C := RX1) (T := TX1) (N := 7) hx hb hts iw_k_X1_decide_1 hown hK hP 0 rfl rfl 1 (by decide) (hts (.fieldLink RX1 39 "BinStreams$Reader" "range" "I") (by decide +kernel)) (fun _ h9 => h9) rfl dX1_decide_50 ?_
    refine wk_isub hx hb dX1_decide_53 (by omega) ?_
    refine va_put (D := D) (ci := 1) (v := .int (nI (of - (rg - (Rt (4 * S ct + rg / 64 % 4)))))) (ty := .int) (C := RX1) (T := TX1) (N := 7) hx hb hts iw_k_X1_decide_1 tyX1 tyX1_ok nmX1 hown hK hP hD hS 0 rfl rfl 2 (by decide) (hts (.fieldLink RX1 42 "BinStreams$Reader" "offset" "I") (by decide +kernel)) (fun _ h9 => h9) rfl (by decide +kernel) rfl rfl (Nat.le_of_ble_eq_true rfl) dX1_decide_54 (fun H locs hP hD hS => ?_)
    have hP : va_P D vwCl [(rd, .inr (1, [.ref rc, .int (nI (rg - (Rt (4 * S ct + rg / 64 % 4)))), .int (nI (of - (rg - (Rt (4 * S ct + rg / 64 % 4))))), .int (nI rdg), .ref rb, .int (nI (8 * has)), .int (nI (min pl (8 * has)))])), (rc, .inr (0, [.ref rcs, .ref rcl])), (rcs, .inl (cI, 32, .inl (ai S))), (rcl, .inl (cI, 32, .inl (ai L))), (rb, .inl (cI, 302, .inl (ai Cf)))] H := hP
    have hD : va_D A [(rd, .inr (1, [.ref rc, .int (nI (rg - (Rt (4 * S ct + rg / 64 % 4)))), .int (nI (of - (rg - (Rt (4 * S ct + rg / 64 % 4))))), .int (nI rdg), .ref rb, .int (nI (8 * has)), .int (nI (min pl (8 * has)))])), (rc, .inr (0, [.ref rcs, .ref rcl])), (rcs, .inl (cI, 32, .inl (ai S))), (rcl, .inl (cI, 32, .inl (ai L))), (rb, .inl (cI, 302, .inl (ai Cf)))] := hD
    refine lv_aload_n hx hb dX1_decide_57 rfl (lv_at hl 2 rfl) ?_
    refine lv_iload_n hx hb dX1_decide_58 rfl (lv_at hl 1 rfl) ?_
    refine va_put (D := D) (ci := 1) (v := .int (nI (Rt (4 * S ct + rg / 64 % 4)))) (ty := .int) (C := RX1) (T := TX1) (N := 7) hx hb hts iw_k_X1_decide_1 tyX1 tyX1_ok nmX1 hown hK hP hD hS 0 rfl rfl 1 (by decide) (hts (.fieldLink RX1 39 "BinStreams$Reader" "range" "I") (by decide +kernel)) (fun _ h9 => h9) rfl (by decide +kernel) rfl rfl (Nat.le_of_ble_eq_true rfl) dX1_decide_59 (fun H locs hP hD hS => ?_)
    have hP : va_P D vwCl [(rd, .inr (1, [.ref rc, .int (nI (Rt (4 * S ct + rg / 64 % 4))), .int (nI (of - (rg - (Rt (4 * S ct + rg / 64 % 4))))), .int (nI rdg), .ref rb, .int (nI (8 * has)), .int (nI (min pl (8 * has)))])), (rc, .inr (0, [.ref rcs, .ref rcl])), (rcs, .inl (cI, 32, .inl (ai S))), (rcl, .inl (cI, 32, .inl (ai L))), (rb, .inl (cI, 302, .inl (ai Cf)))] H := hP
    have hD : va_D A [(rd, .inr (1, [.ref rc, .int (nI (Rt (4 * S ct + rg / 64 % 4))), .int (nI (of - (rg - (Rt (4 * S ct + rg / 64 % 4))))), .int (nI rdg), .ref rb, .int (nI (8 * has)), .int (nI (min pl (8 * has)))])), (rc, .inr (0, [.ref rcs, .ref rcl])), (rcs, .inl (cI, 32, .inl (ai S))), (rcl, .inl (cI, 32, .inl (ai L))), (rb, .inl (cI, 302, .inl (ai Cf)))] := hD
    refine lv_iconst (v := nI 1) hx hb dX1_decide_62 (by decide) ?_
    refine lv_iload_n hx hb dX1_decide_63 rfl (lv_at hl 0 rfl) ?_
    refine wk_isub hx hb dX1_decide_64 (by omega) ?_
    refine lv_istore_n (lv' := [(3, .int (nI (1 - (L ct)))), (2, .int (nI (Rt (4 * S ct + rg / 64 % 4)))), (0, .ref rd), (1, .int (nI ct))]) hx hb dX1_decide_65 rfl hl (by decide) rfl (fun ls hl => ?_)
    refine lv_aload_n hx hb dX1_decide_66 rfl (lv_at hl 2 rfl) ?_
    refine va_get (D := D) (ci := 1) (v := .ref rc) (C := RX1) (T := TX1) (N := 7) hx hb hts iw_k_X1_decide_1 hown hK hP 0 rfl rfl 0 (by decide) (hts (.fieldLink RX1 12 "BinStreams$Reader" "contexts" "LBinStreams$Contexts;") (by decide +kernel)) (fun _ h9 => h9) rfl dX1_decide_67 ?_
    refine lv_iload_n hx hb dX1_decide_70 rfl (lv_at hl 3 rfl) ?_
    refine lv_iload_n hx hb dX1_decide_71 rfl (lv_at hl 0 rfl) ?_
    have hPc := hP.sub (ws' := [(rc, .inr (0, [.ref rcs, .ref rcl])), (rcs, .inl (cI, 32, .inl (ai S))), (rcl, .inl (cI, 32, .inl (ai L)))]) [1, 2, 3] rfl
    have hDc := hD.sub (ws' := [(rc, .inr (0, [.ref rcs, .ref rcl])), (rcs, .inl (cI, 32, .inl (ai S))), (rcl, .inl (cI, 32, .inl (ai L)))]) [1, 2, 3] (by decide) rfl
    have hFc := va_free (wc := [(rc, .inr (0, [.ref rcs, .ref rcl])), (rcs, .inl (cI, 32, .inl (ai S))), (rcl, .inl (cI, 32, .inl (ai L)))]) hD hS hA [1, 2, 3] rfl
    refine va_callv (va_runV (As := [.int (nI ct), .int (nI (1 - (L ct)))]) (rest := []) ⟨hx, hb, hml, hown, hts⟩ (k_X0_learn l D cI ep rc rcs rcl H.size ct (1 - (L ct)) S L (by omega) (by omega) (by exact hSc) (by exact hLc)) (cwV 2 hts gX1_decide_X0_learn rfl rfl rfl (by decide +kernel) ⟨Nat.le_of_ble_eq_true rfl, Nat.le_of_ble_eq_true rfl⟩) ⟨kP_blind, va_recv hK hPc (ci := 0) (q0 := 0) rfl rfl, kP_pre hPc hK hDc (evo_to hev hS hFc)⟩ rfl rfl hl.1 rfl (lv_room (Nat.le_of_ble_eq_true rfl)) dX1_decide_72 ⟨Nat.le_of_ble_eq_true rfl, Nat.le_of_ble_eq_true rfl⟩) hS (fun q _ h => hFc q h) hFc (fun u t H1 locs ht hvm hw_6 hB hz1 hk1 hS => ?_)
    obtain ⟨hP1, hK1, hD1⟩ := hB
    rw [ht] at hP1
    obtain ⟨hP, hD⟩ := va_join (wc := [(rc, .inr (0, [.ref rcs, .ref rcl])), (rcs, .inl (cI, 32, .inl (ai S))), (rcl, .inl (cI, 32, .inl (ai L)))]) (wr := [(rd, .inr (1, [.ref rc, .int (nI (Rt (4 * S ct + rg / 64 % 4))), .int (nI (of - (rg - (Rt (4 * S ct + rg / 64 % 4))))), .int (nI rdg), .ref rb, .int (nI (8 * has)), .int (nI (min pl (8 * has)))])), (rb, .inl (cI, 302, .inl (ai Cf)))]) (w1 := [(rc, .inr (0, [.ref rcs, .ref rcl])), (rcs, .inl (cI, 32, .inl (ai (lS S L ct (1 - (L ct)))))), (rcl, .inl (cI, 32, .inl (ai (lL S L ct (1 - (L ct))))))]) hP hD [1, 2, 3] [0, 4] rfl rfl (by decide) (by decide) hk1 hFc hP1 hD1
    clear hP1 hK1 hD1 hPc hDc hFc hk1 hz1 hvm ht
    have hP : va_P D vwCl [(rd, .inr (1, [.ref rc, .int (nI (Rt (4 * S ct + rg / 64 % 4))), .int (nI (of - (rg - (Rt (4 * S ct + rg / 64 % 4))))), .int (nI rdg), .ref rb, .int (nI (8 * has)), .int (nI (min pl (8 * has)))])), (rc, .inr (0, [.ref rcs, .ref rcl])), (rcs, .inl (cI, 32, .inl (ai (lS S L ct (1 - (L ct)))))), (rcl, .inl (cI, 32, .inl (ai (lL S L ct (1 - (L ct)))))), (rb, .inl (cI, 302, .inl (ai Cf)))] H1 := hP.sub [0, 2, 3, 4, 1] rfl
    have hD : va_D A [(rd, .inr (1, [.ref rc, .int (nI (Rt (4 * S ct + rg / 64 % 4))), .int (nI (of - (rg - (Rt (4 * S ct + rg / 64 % 4))))), .int (nI rdg), .ref rb, .int (nI (8 * has)), .int (nI (min pl (8 * has)))])), (rc, .inr (0, [.ref rcs, .ref rcl])), (rcs, .inl (cI, 32, .inl (ai (lS S L ct (1 - (L ct)))))), (rcl, .inl (cI, 32, .inl (ai (lL S L ct (1 - (L ct)))))), (rb, .inl (cI, 302, .inl (ai Cf)))] := hD.sub [0, 2, 3, 4, 1] (by decide) rfl
    try dsimp only at hw_6
    refine lv_aload_n hx hb dX1_decide_75 rfl (lv_at hl 2 rfl) ?_
    have hPc := hP.sub (ws' := [(rd, .inr (1, [.ref rc, .int (nI (Rt (4 * S ct + rg / 64 % 4))), .int (nI (of - (rg - (Rt (4 * S ct + rg / 64 % 4))))), .int (nI rdg), .ref rb, .int (nI (8 * has)), .int (nI (min pl (8 * has)))])), (rc, .inr (0, [.ref rcs, .ref rcl])), (rcs, .inl (cI, 32, .inl (ai (lS S L ct (1 - (L ct)))))), (rcl, .inl (cI, 32, .inl (ai (lL S L ct (1 - (L ct)))))), (rb, .inl (cI, 302, .inl (ai Cf)))]) [0, 1, 2, 3, 4] rfl
    have hDc := hD.sub (ws' := [(rd, .inr (1, [.ref rc, .int (nI (Rt (4 * S ct + rg / 64 % 4))), .int (nI (of - (rg - (Rt (4 * S ct + rg / 64 % 4))))), .int (nI rdg), .ref rb, .int (nI (8 * has)), .int (nI (min pl (8 * has)))])), (rc, .inr (0, [.ref rcs, .ref rcl])), (rcs, .inl (cI, 32, .inl (ai (lS S L ct (1 - (L ct)))))), (rcl, .inl (cI, 32, .inl (ai (lL S L ct (1 - (L ct)))))), (rb, .inl (cI, 302, .inl (ai Cf)))]) [0, 1, 2, 3, 4] (by decide) rfl
    have hFc := va_free (wc := [(rd, .inr (1, [.ref rc, .int (nI (Rt (4 * S ct + rg / 64 % 4))), .int (nI (of - (rg - (Rt (4 * S ct + rg / 64 % 4))))), .int (nI rdg), .ref rb, .int (nI (8 * has)), .int (nI (min pl (8 * has)))])), (rc, .inr (0, [.ref rcs, .ref rcl])), (rcs, .inl (cI, 32, .inl (ai (lS S L ct (1 - (L ct)))))), (rcl, .inl (cI, 32, .inl (ai (lL S L ct (1 - (L ct)))))), (rb, .inl (cI, 302, .inl (ai Cf)))]) hD hS hA [0, 1, 2, 3, 4] rfl
    refine va_callv (va_runV (As := []) (rest := []) ⟨hx, hb, hml, hown, hts⟩ (k_X1_shift l D cI rd rc rcs rcl rb H1.size pl has (Rt (4 * S ct + rg / 64 % 4)) (of - (rg - (Rt (4 * S ct + rg / 64 % 4)))) rdg (lS S L ct (1 - (L ct))) (lL S L ct (1 - (L ct))) Cf bs (by exact hbs) (by exact hC) (by omega) (by omega) (by omega) (by omega)) (cwV 0 hts gX1_decide_X1_shift rfl rfl rfl (by decide +kernel) ⟨Nat.le_of_ble_eq_true rfl, Nat.le_of_ble_eq_true rfl⟩) ⟨kP_blind, va_recv hK hPc (ci := 1) (q0 := 0) rfl rfl, kP_pre hPc hK hDc evo_none⟩ rfl rfl hl.1 rfl (lv_room (Nat.le_of_ble_eq_true rfl)) dX1_decide_76 ⟨Nat.le_of_ble_eq_true rfl, Nat.le_of_ble_eq_true rfl⟩) hS (fun q _ h => hFc q h) hFc (fun u t H1 locs ht hvm hsh hB hz1 hk1 hS => ?_)
    obtain ⟨rg1, of1, pl1⟩ := u
    obtain ⟨hP1, hK1, hD1⟩ := hB
    rw [ht] at hP1
    obtain ⟨hP, hD⟩ := va_join (wc := [(rd, .inr (1, [.ref rc, .int (nI (Rt (4 * S ct + rg / 64 % 4))), .int (nI (of - (rg - (Rt (4 * S ct + rg / 64 % 4))))), .int (nI rdg), .ref rb, .int (nI (8 * has)), .int (nI (min pl (8 * has)))])), (rc, .inr (0, [.ref rcs, .ref rcl])), (rcs, .inl (cI, 32, .inl (ai (lS S L ct (1 - (L ct)))))), (rcl, .inl (cI, 32, .inl (ai (lL S L ct (1 - (L ct)))))), (rb, .inl (cI, 302, .inl (ai Cf)))]) (wr := []) (w1 := [(rd, .inr (1, [.ref rc, .int (nI rg1), .int (nI of1), .int (nI rdg), .ref rb, .int (nI (8 * has)), .int (nI (min pl1 (8 * has)))])), (rc, .inr (0, [.ref rcs, .ref rcl])), (rcs, .inl (cI, 32, .inl (ai (lS S L ct (1 - (L ct)))))), (rcl, .inl (cI, 32, .inl (ai (lL S L ct (1 - (L ct)))))), (rb, .inl (cI, 302, .inl (ai Cf)))]) hP hD [0, 1, 2, 3, 4] [] rfl rfl (by decide) (by decide) hk1 hFc hP1 hD1
    clear hP1 hK1 hD1 hPc hDc hFc hk1 hz1 hvm ht
    have hP : va_P D vwCl [(rd, .inr (1, [.ref rc, .int (nI rg1), .int (nI of1), .int (nI rdg), .ref rb, .int (nI (8 * has)), .int (nI (min pl1 (8 * has)))])), (rc, .inr (0, [.ref rcs, .ref rcl])), (rcs, .inl (cI, 32, .inl (ai (lS S L ct (1 - (L ct)))))), (rcl, .inl (cI, 32, .inl (ai (lL S L ct (1 - (L ct)))))), (rb, .inl (cI, 302, .inl (ai Cf)))] H1 := hP.sub [0, 1, 2, 3, 4] rfl
    have hD : va_D A [(rd, .inr (1, [.ref rc, .int (nI rg1), .int (nI of1), .int (nI rdg), .ref rb, .int (nI (8 * has)), .int (nI (min pl1 (8 * has)))])), (rc, .inr (0, [.ref rcs, .ref rcl])), (rcs, .inl (cI, 32, .inl (ai (lS S L ct (1 - (L ct)))))), (rcl, .inl (cI, 32, .inl (ai (lL S L ct (1 - (L ct)))))), (rb, .inl (cI, 302, .inl (ai Cf)))] := hD.sub [0, 1, 2, 3, 4] (by decide) rfl
    try dsimp only at hsh
    refine lv_iload_n hx hb dX1_decide_79 rfl (lv_at hl 0 rfl) ?_
    have he_8 : (lS S L ct (1 - (L ct))) = (lS S L ct (rdB rg of (Rt (4 * S ct + rg / 64 % 4)) (L ct))) := by unfold rdB; rw [if_neg (by omega)]
    have hP : va_P D vwCl [(rd, .inr (1, [.ref rc, .int (nI rg1), .int (nI of1), .int (nI rdg), .ref rb, .int (nI (8 * has)), .int (nI (min pl1 (8 * has)))])), (rc, .inr (0, [.ref rcs, .ref rcl])), (rcs, .inl (cI, 32, .inl (ai (lS S L ct (rdB rg of (Rt (4 * S ct + rg / 64 % 4)) (L ct)))))), (rcl, .inl (cI, 32, .inl (ai (lL S L ct (1 - (L ct)))))), (rb, .inl (cI, 302, .inl (ai Cf)))] H1 := (congrArg (fun z9 : Nat → Nat => va_P D vwCl [(rd, .inr (1, [.ref rc, .int (nI rg1), .int (nI of1), .int (nI rdg), .ref rb, .int (nI (8 * has)), .int (nI (min pl1 (8 * has)))])), (rc, .inr (0, [.ref rcs, .ref rcl])), (rcs, .inl (cI, 32, .inl (ai z9))), (rcl, .inl (cI, 32, .inl (ai (lL S L ct (1 - (L ct)))))), (rb, .inl (cI, 302, .inl (ai Cf)))] H1) he_8).mp hP
    have hD : va_D A [(rd, .inr (1, [.ref rc, .int (nI rg1), .int (nI of1), .int (nI rdg), .ref rb, .int (nI (8 * has)), .int (nI (min pl1 (8 * has)))])), (rc, .inr (0, [.ref rcs, .ref rcl])), (rcs, .inl (cI, 32, .inl (ai (lS S L ct (rdB rg of (Rt (4 * S ct + rg / 64 % 4)) (L ct)))))), (rcl, .inl (cI, 32, .inl (ai (lL S L ct (1 - (L ct)))))), (rb, .inl (cI, 302, .inl (ai Cf)))] := (congrArg (fun z9 : Nat → Nat => va_D A [(rd, .inr (1, [.ref rc, .int (nI rg1), .int (nI of1), .int (nI rdg), .ref rb, .int (nI (8 * has)), .int (nI (min pl1 (8 * has)))])), (rc, .inr (0, [.ref rcs, .ref rcl])), (rcs, .inl (cI, 32, .inl (ai z9))), (rcl, .inl (cI, 32, .inl (ai (lL S L ct (1 - (L ct)))))), (rb, .inl (cI, 302, .inl (ai Cf)))]) he_8).mp hD
    have he_9 : (lL S L ct (1 - (L ct))) = (lL S L ct (rdB rg of (Rt (4 * S ct + rg / 64 % 4)) (L ct))) := by unfold rdB; rw [if_neg (by omega)]
    have hP : va_P D vwCl [(rd, .inr (1, [.ref rc, .int (nI rg1), .int (nI of1), .int (nI rdg), .ref rb, .int (nI (8 * has)), .int (nI (min pl1 (8 * has)))])), (rc, .inr (0, [.ref rcs, .ref rcl])), (rcs, .inl (cI, 32, .inl (ai (lS S L ct (rdB rg of (Rt (4 * S ct + rg / 64 % 4)) (L ct)))))), (rcl, .inl (cI, 32, .inl (ai (lL S L ct (rdB rg of (Rt (4 * S ct + rg / 64 % 4)) (L ct)))))), (rb, .inl (cI, 302, .inl (ai Cf)))] H1 := (congrArg (fun z9 : Nat → Nat => va_P D vwCl [(rd, .inr (1, [.ref rc, .int (nI rg1), .int (nI of1), .int (nI rdg), .ref rb, .int (nI (8 * has)), .int (nI (min pl1 (8 * has)))])), (rc, .inr (0, [.ref rcs, .ref rcl])), (rcs, .inl (cI, 32, .inl (ai (lS S L ct (rdB rg of (Rt (4 * S ct + rg / 64 % 4)) (L ct)))))), (rcl, .inl (cI, 32, .inl (ai z9))), (rb, .inl (cI, 302, .inl (ai Cf)))] H1) he_9).mp hP
    have hD : va_D A [(rd, .inr (1, [.ref rc, .int (nI rg1), .int (nI of1), .int (nI rdg), .ref rb, .int (nI (8 * has)), .int (nI (min pl1 (8 * has)))])), (rc, .inr (0, [.ref rcs, .ref rcl])), (rcs, .inl (cI, 32, .inl (ai (lS S L ct (rdB rg of (Rt (4 * S ct + rg / 64 % 4)) (L ct)))))), (rcl, .inl (cI, 32, .inl (ai (lL S L ct (rdB rg of (Rt (4 * S ct + rg / 64 % 4)) (L ct)))))), (rb, .inl (cI, 302, .inl (ai Cf)))] := (congrArg (fun z9 : Nat → Nat => va_D A [(rd, .inr (1, [.ref rc, .int (nI rg1), .int (nI of1), .int (nI rdg), .ref rb, .int (nI (8 * has)), .int (nI (min pl1 (8 * has)))])), (rc, .inr (0, [.ref rcs, .ref rcl])), (rcs, .inl (cI, 32, .inl (ai (lS S L ct (rdB rg of (Rt (4 * S ct + rg / 64 % 4)) (L ct)))))), (rcl, .inl (cI, 32, .inl (ai z9))), (rb, .inl (cI, 302, .inl (ai Cf)))]) he_9).mp hD
    exact W.iret (v := nI (1 - (L ct))) hx hb hr (fun t ht hW => ⟨⟨nI (1 - (L ct)), (rg1, of1, pl1), rfl, ⟨by unfold rdB; rw [if_neg (by omega)], by rw [hsh]; unfold rdX; rw [if_neg (by dsimp only; omega)]⟩, by rw [ht]; exact hP, va_K.moved hW.alike hK, hD⟩, hS.F ht⟩) hS.2.2 dX1_decide_80

theorem iw_k_X1_goBy_1 : ∀ w ∈ u_ws RX1 TX1 7, w ∈ wsX1_goBy := by decide +kernel
set_option maxHeartbeats 1000000 in
set_option maxRecDepth 100000 in
/-- a bin that goes by is read -/
theorem k_X1_goBy (l : Launch) (D : va_G) (cI : ClassId) (rd rc rcs rcl rb : Nat) (sz : Nat) (pl : Nat) (has : Nat) (rg : Nat) (of : Nat) (rdg : Nat) (S : Nat → Nat) (L : Nat → Nat) (Cf : Nat → Nat) (bs : Nat → Nat) (hbs : BS Cf has bs) (hC : ∀ j, j < has → Cf j < 256) (hhas : has ≤ 302) (hpl : pl < 1000000000) (hrg2 : rg < 512) (hof : of < rg) : Met l yX1_goBy wsX1_goBy ({ frames := 2, cells := 0, slots := 0, locals := 41 }) (kP D none [.ref rd] [(cI, .int)] [(rd, .inr (1, [.ref rc, .int (nI rg), .int (nI of), .int (nI rdg), .ref rb, .int (nI (8 * has)), .int (nI (min pl (8 * has)))])), (rc, .inr (0, [.ref rcs, .ref rcl])), (rcs, .inl (cI, 32, .inl (ai S))), (rcl, .inl (cI, 32, .inl (ai L))), (rb, .inl (cI, 302, .inl (ai Cf)))] sz) (va_Qi (fun (r : Int32) (u : Nat) => match u with | (of1) => r = nI (ryB bs (rg, of, pl)) ∧ (rg, of1, pl + 1) = ryX bs (rg, of, pl)) (fun u t => match u with | (of1) => kB D [(cI, .int)] (va_A [(rd, .inr (1, [.ref rc, .int (nI rg), .int (nI of), .int (nI rdg), .ref rb, .int (nI (8 * has)), .int (nI (min pl (8 * has)))])), (rc, .inr (0, [.ref rcs, .ref rcl])), (rcs, .inl (cI, 32, .inl (ai S))), (rcl, .inl (cI, 32, .inl (ai L))), (rb, .inl (cI, 302, .inl (ai Cf)))] sz) [(rd, .inr (1, [.ref rc, .int (nI rg), .int (nI of1), .int (nI rdg), .ref rb, .int (nI (8 * has)), .int (nI (min (pl + 1) (8 * has)))])), (rc, .inr (0, [.ref rcs, .ref rcl])), (rcs, .inl (cI, 32, .inl (ai S))), (rcl, .inl (cI, 32, .inl (ai L))), (rb, .inl (cI, 302, .inl (ai Cf)))] t) (va_A [(rd, .inr (1, [.ref rc, .int (nI rg), .int (nI of), .int (nI rdg), .ref rb, .int (nI (8 * has)), .int (nI (min pl (8 * has)))])), (rc, .inr (0, [.ref rcs, .ref rcl])), (rcs, .inl (cI, 32, .inl (ai S))), (rcl, .inl (cI, 32, .inl (ai L))), (rb, .inl (cI, 302, .inl (ai Cf)))] sz)) 0 0 (va_A [(rd, .inr (1, [.ref rc, .int (nI rg), .int (nI of), .int (nI rdg), .ref rb, .int (nI (8 * has)), .int (nI (min pl (8 * has)))])), (rc, .inr (0, [.ref rcs, .ref rcl])), (rcs, .inl (cI, 32, .inl (ai S))), (rcl, .inl (cI, 32, .inl (ai L))), (rb, .inl (cI, 302, .inl (ai Cf)))] sz) := by
  refine Met.ofW (cc := cX1_goBy) (maxL := 1) (ret := (some .int)) (by decide) rfl ?_
  intro p e s m args below meth c s₁ B hml hv
  obtain ⟨rfl, hsz, hP, hK, hD0, hev⟩ := hv
  have hx := B.exec
  have hb := B.bytes
  have hr := B.returns
  have hts := atoms_spec (ws := wsX1_goBy) B.pre
  have hown : s.vm.findClass RX1 = some m.cls := findClass_of_methodNamed B.named
  have hlocks := B.notSynchronized
  subst hsz
  have hD := hD0.self (sz := s.heap.size)
  clear hD0
  generalize hAe : va_A [(rd, .inr (1, [.ref rc, .int (nI rg), .int (nI of), .int (nI rdg), .ref rb, .int (nI (8 * has)), .int (nI (min pl (8 * has)))])), (rc, .inr (0, [.ref rcs, .ref rcl])), (rcs, .inl (cI, 32, .inl (ai S))), (rcl, .inl (cI, 32, .inl (ai L))), (rb, .inl (cI, 302, .inl (ai Cf)))] s.heap.size = A at hD hev ⊢
  have hA : ∀ q : Nat, s.heap.size ≤ q → A q := fun q h => by rw [← hAe]; exact Or.inr h
  clear hAe
  have hS : va_S A s.heap s.heap [] := va_S.rf
  have hl := lv_entry ([.ref rd]) (n := 1) (Nat.le_of_ble_eq_true rfl)
  rw [lg_entry_eq]
  generalize (lg_sl ([.ref rd]) ++ List.replicate (1 - (lg_sl ([.ref rd])).length) Slot.unset).toArray = ls at hl ⊢
  have hl : lv_has ls 1 [(0, .ref rd)] := hl
  have hb1 := BS_2 hbs pl
  refine lv_aload_n hx hb dX1_goBy_0 rfl (lv_at hl 0 rfl) ?_
  have hPc := hP.sub (ws' := [(rd, .inr (1, [.ref rc, .int (nI rg), .int (nI of), .int (nI rdg), .ref rb, .int (nI (8 * has)), .int (nI (min pl (8 * has)))])), (rc, .inr (0, [.ref rcs, .ref rcl])), (rcs, .inl (cI, 32, .inl (ai S))), (rcl, .inl (cI, 32, .inl (ai L))), (rb, .inl (cI, 302, .inl (ai Cf)))]) [0, 1, 2, 3, 4] rfl
  have hDc := hD.sub (ws' := [(rd, .inr (1, [.ref rc, .int (nI rg), .int (nI of), .int (nI rdg), .ref rb, .int (nI (8 * has)), .int (nI (min pl (8 * has)))])), (rc, .inr (0, [.ref rcs, .ref rcl])), (rcs, .inl (cI, 32, .inl (ai S))), (rcl, .inl (cI, 32, .inl (ai L))), (rb, .inl (cI, 302, .inl (ai Cf)))]) [0, 1, 2, 3, 4] (by decide) rfl
  have hFc := va_free (wc := [(rd, .inr (1, [.ref rc, .int (nI rg), .int (nI of), .int (nI rdg), .ref rb, .int (nI (8 * has)), .int (nI (min pl (8 * has)))])), (rc, .inr (0, [.ref rcs, .ref rcl])), (rcs, .inl (cI, 32, .inl (ai S))), (rcl, .inl (cI, 32, .inl (ai L))), (rb, .inl (cI, 302, .inl (ai Cf)))]) hD hS hA [0, 1, 2, 3, 4] rfl
  refine va_callv (va_runV (As := []) (rest := []) ⟨hx, hb, hml, hown, hts⟩ (k_X1_takeBit l D cI rd rc rcs rcl rb s.heap.size pl has rg of rdg S L Cf bs (by exact hbs) (by exact hC) (by omega) (by omega)) (cwV 0 hts gX1_goBy_X1_takeBit rfl rfl rfl (by decide +kernel) ⟨Nat.le_of_ble_eq_true rfl, Nat.le_of_ble_eq_true rfl⟩) ⟨kP_blind, va_recv hK hPc (ci := 1) (q0 := 0) rfl rfl, kP_pre hPc hK hDc evo_none⟩ rfl rfl hl.1 rfl (lv_room (Nat.le_of_ble_eq_true rfl)) dX1_goBy_1 ⟨Nat.le_of_ble_eq_true rfl, Nat.le_of_ble_eq_true rfl⟩) hS (fun q _ h => hFc q h) hFc (fun u t H1 locs ht hvm hw_1 hB hz1 hk1 hS => ?_)
  obtain ⟨hP1, hK1, hD1⟩ := hB
  rw [ht] at hP1
  obtain ⟨hP, hD⟩ := va_join (wc := [(rd, .inr (1, [.ref rc, .int (nI rg), .int (nI of), .int (nI rdg), .ref rb, .int (nI (8 * has)), .int (nI (min pl (8 * has)))])), (rc, .inr (0, [.ref rcs, .ref rcl])), (rcs, .inl (cI, 32, .inl (ai S))), (rcl, .inl (cI, 32, .inl (ai L))), (rb, .inl (cI, 302, .inl (ai Cf)))]) (wr := []) (w1 := [(rd, .inr (1, [.ref rc, .int (nI rg), .int (nI (2 * of + bs pl)), .int (nI rdg), .ref rb, .int (nI (8 * has)), .int (nI (min (pl + 1) (8 * has)))])), (rc, .inr (0, [.ref rcs, .ref rcl])), (rcs, .inl (cI, 32, .inl (ai S))), (rcl, .inl (cI, 32, .inl (ai L))), (rb, .inl (cI, 302, .inl (ai Cf)))]) hP hD [0, 1, 2, 3, 4] [] rfl rfl (by decide) (by decide) hk1 hFc hP1 hD1
  clear hP1 hK1 hD1 hPc hDc hFc hk1 hz1 hvm ht
  have hP : va_P D vwCl [(rd, .inr (1, [.ref rc, .int (nI rg), .int (nI (2 * of + bs pl)), .int (nI rdg), .ref rb, .int (nI (8 * has)), .int (nI (min (pl + 1) (8 * has)))])), (rc, .inr (0, [.ref rcs, .ref rcl])), (rcs, .inl (cI, 32, .inl (ai S))), (rcl, .inl (cI, 32, .inl (ai L))), (rb, .inl (cI, 302, .inl (ai Cf)))] H1 := hP.sub [0, 1, 2, 3, 4] rfl
  have hD : va_D A [(rd, .inr (1, [.ref rc, .int (nI rg), .int (nI (2 * of + bs pl)), .int (nI rdg), .ref rb, .int (nI (8 * has)), .int (nI (min (pl + 1) (8 * has)))])), (rc, .inr (0, [.ref rcs, .ref rcl])), (rcs, .inl (cI, 32, .inl (ai S))), (rcl, .inl (cI, 32, .inl (ai L))), (rb, .inl (cI, 302, .inl (ai Cf)))] := hD.sub [0, 1, 2, 3, 4] (by decide) rfl
  try dsimp only at hw_1
  refine lv_aload_n hx hb dX1_goBy_4 rfl (lv_at hl 0 rfl) ?_
  refine va_get (D := D) (ci := 1) (v := .int (nI (2 * of + bs pl))) (C := RX1) (T := TX1) (N := 7) hx hb hts iw_k_X1_goBy_1 hown hK hP 0 rfl rfl 2 (by decide) (hts (.fieldLink RX1 42 "BinStreams$Reader" "offset" "I") (by decide +kernel)) (fun _ h9 => h9) rfl dX1_goBy_5 ?_
  refine lv_aload_n hx hb dX1_goBy_8 rfl (lv_at hl 0 rfl) ?_
  refine va_get (D := D) (ci := 1) (v := .int (nI rg)) (C := RX1) (T := TX1) (N := 7) hx hb hts iw_k_X1_goBy_1 hown hK hP 0 rfl rfl 1 (by decide) (hts (.fieldLink RX1 39 "BinStreams$Reader" "range" "I") (by decide +kernel)) (fun _ h9 => h9) rfl dX1_goBy_9 ?_
  refine wk_ge (tgt := 17) hx hb dX1_goBy_12 (by decide) (by omega) (by omega) (fun c_12 => ?_) (fun c_12 => ?_)
  · refine lv_aload_n hx hb dX1_goBy_17 rfl (lv_at hl 0 rfl) ?_
    refine lv_dup hx hb dX1_goBy_18 rfl ?_
    refine va_get (D := D) (ci := 1) (v := .int (nI (2 * of + bs pl))) (C := RX1) (T := TX1) (N := 7) hx hb hts iw_k_X1_goBy_1 hown hK hP 0 rfl rfl 2 (by decide) (hts (.fieldLink RX1 42 "BinStreams$Reader" "offset" "I") (by decide +kernel)) (fun _ h9 => h9) rfl dX1_goBy_19 ?_
    refine lv_aload_n hx hb dX1_goBy_22 rfl (lv_at hl 0 rfl) ?_
    refine va_get (D := D) (ci := 1) (v := .int (nI rg)) (C := RX1) (T := TX1) (N := 7) hx hb hts iw_k_X1_goBy_1 hown hK hP 0 rfl rfl 1 (by decide) (hts (.fieldLink RX1 39 "BinStreams$Reader" "range" "I") (by decide +kernel)) (fun _ h9 => h9) rfl dX1_goBy_23 ?_
    refine wk_isub hx hb dX1_goBy_26 (by omega) ?_
    refine va_put (D := D) (ci := 1) (v := .int (nI ((2 * of + bs pl) - rg))) (ty := .int) (C := RX1) (T := TX1) (N := 7) hx hb hts iw_k_X1_goBy_1 tyX1 tyX1_ok nmX1 hown hK hP hD hS 0 rfl rfl 2 (by decide) (hts (.fieldLink RX1 42 "BinStreams$Reader" "offset" "I") (by decide +kernel)) (fun _ h9 => h9) rfl (by decide +kernel) rfl rfl (Nat.le_of_ble_eq_true rfl) dX1_goBy_27 (fun H locs hP hD hS => ?_)
    have hP : va_P D vwCl [(rd, .inr (1, [.ref rc, .int (nI rg), .int (nI ((2 * of + bs pl) - rg)), .int (nI rdg), .ref rb, .int (nI (8 * has)), .int (nI (min (pl + 1) (8 * has)))])), (rc, .inr (0, [.ref rcs, .ref rcl])), (rcs, .inl (cI, 32, .inl (ai S))), (rcl, .inl (cI, 32, .inl (ai L))), (rb, .inl (cI, 302, .inl (ai Cf)))] H := hP
    have hD : va_D A [(rd, .inr (1, [.ref rc, .int (nI rg), .int (nI ((2 * of + bs pl) - rg)), .int (nI rdg), .ref rb, .int (nI (8 * has)), .int (nI (min (pl + 1) (8 * has)))])), (rc, .inr (0, [.ref rcs, .ref rcl])), (rcs, .inl (cI, 32, .inl (ai S))), (rcl, .inl (cI, 32, .inl (ai L))), (rb, .inl (cI, 302, .inl (ai Cf)))] := hD
    refine lv_iconst (v := nI 1) hx hb dX1_goBy_30 (by decide) ?_
    exact W.iret (v := nI 1) hx hb hr (fun t ht hW => ⟨⟨nI 1, ((2 * of + bs pl) - rg), rfl, ⟨by unfold ryB; rw [if_neg (by dsimp only; omega)], by unfold ryX; rw [if_neg (by dsimp only; omega)]⟩, by rw [ht]; exact hP, va_K.moved hW.alike hK, hD⟩, hS.F ht⟩) hS.2.2 dX1_goBy_31
  · refine lv_iconst (v := nI 0) hx hb dX1_goBy_15 (by decide) ?_
    exact W.iret (v := nI 0) hx hb hr (fun t ht hW => ⟨⟨nI 0, (2 * of + bs pl), rfl, ⟨by unfold ryB; rw [if_pos (by dsimp only; omega)], by unfold ryX; rw [if_pos (by dsimp only; omega)]⟩, by rw [ht]; exact hP, va_K.moved hW.alike hK, hD⟩, hS.F ht⟩) hS.2.2 dX1_goBy_16

theorem iw_k_X1_stopAtWrong_1 : ∀ w ∈ u_ws RX1 TX1 7, w ∈ wsX1_stopAtWrong := by decide +kernel
set_option maxHeartbeats 1000000 in
set_option maxRecDepth 100000 in
/-- a wrong number -/
theorem k_X1_stopAtWrong (l : Launch) (D : va_G) (cI : ClassId) (rd rc rcs rcl rb : Nat) (sz : Nat) (pl : Nat) (has : Nat) (rg : Nat) (of : Nat) (rdg : Nat) (S : Nat → Nat) (L : Nat → Nat) (Cf : Nat → Nat) : Met l yX1_stopAtWrong wsX1_stopAtWrong ({ frames := 0, cells := 0, slots := 0, locals := 0 }) (kP D none [.ref rd] [(cI, .int)] [(rd, .inr (1, [.ref rc, .int (nI rg), .int (nI of), .int (nI rdg), .ref rb, .int (nI (8 * has)), .int (nI (min pl (8 * has)))])), (rc, .inr (0, [.ref rcs, .ref rcl])), (rcs, .inl (cI, 32, .inl (ai S))), (rcl, .inl (cI, 32, .inl (ai L))), (rb, .inl (cI, 302, .inl (ai Cf)))] sz) (va_Qi (fun (r : Int32) (u : Unit) => match u with | () => r = nI 100000) (fun u t => match u with | () => kB D [(cI, .int)] (va_A [(rd, .inr (1, [.ref rc, .int (nI rg), .int (nI of), .int (nI rdg), .ref rb, .int (nI (8 * has)), .int (nI (min pl (8 * has)))])), (rc, .inr (0, [.ref rcs, .ref rcl])), (rcs, .inl (cI, 32, .inl (ai S))), (rcl, .inl (cI, 32, .inl (ai L))), (rb, .inl (cI, 302, .inl (ai Cf)))] sz) [(rd, .inr (1, [.ref rc, .int (nI rg), .int (nI of), .int (nI 0), .ref rb, .int (nI (8 * has)), .int (nI (min pl (8 * has)))])), (rc, .inr (0, [.ref rcs, .ref rcl])), (rcs, .inl (cI, 32, .inl (ai S))), (rcl, .inl (cI, 32, .inl (ai L))), (rb, .inl (cI, 302, .inl (ai Cf)))] t) (va_A [(rd, .inr (1, [.ref rc, .int (nI rg), .int (nI of), .int (nI rdg), .ref rb, .int (nI (8 * has)), .int (nI (min pl (8 * has)))])), (rc, .inr (0, [.ref rcs, .ref rcl])), (rcs, .inl (cI, 32, .inl (ai S))), (rcl, .inl (cI, 32, .inl (ai L))), (rb, .inl (cI, 302, .inl (ai Cf)))] sz)) 0 0 (va_A [(rd, .inr (1, [.ref rc, .int (nI rg), .int (nI of), .int (nI rdg), .ref rb, .int (nI (8 * has)), .int (nI (min pl (8 * has)))])), (rc, .inr (0, [.ref rcs, .ref rcl])), (rcs, .inl (cI, 32, .inl (ai S))), (rcl, .inl (cI, 32, .inl (ai L))), (rb, .inl (cI, 302, .inl (ai Cf)))] sz) := by
  refine Met.ofW (cc := cX1_stopAtWrong) (maxL := 1) (ret := (some .int)) (by decide) rfl ?_
  intro p e s m args below meth c s₁ B hml hv
  obtain ⟨rfl, hsz, hP, hK, hD0, hev⟩ := hv
  have hx := B.exec
  have hb := B.bytes
  have hr := B.returns
  have hts := atoms_spec (ws := wsX1_stopAtWrong) B.pre
  have hown : s.vm.findClass RX1 = some m.cls := findClass_of_methodNamed B.named
  have hlocks := B.notSynchronized
  subst hsz
  have hD := hD0.self (sz := s.heap.size)
  clear hD0
  generalize hAe : va_A [(rd, .inr (1, [.ref rc, .int (nI rg), .int (nI of), .int (nI rdg), .ref rb, .int (nI (8 * has)), .int (nI (min pl (8 * has)))])), (rc, .inr (0, [.ref rcs, .ref rcl])), (rcs, .inl (cI, 32, .inl (ai S))), (rcl, .inl (cI, 32, .inl (ai L))), (rb, .inl (cI, 302, .inl (ai Cf)))] s.heap.size = A at hD hev ⊢
  have hA : ∀ q : Nat, s.heap.size ≤ q → A q := fun q h => by rw [← hAe]; exact Or.inr h
  clear hAe
  have hS : va_S A s.heap s.heap [] := va_S.rf
  have hl := lv_entry ([.ref rd]) (n := 1) (Nat.le_of_ble_eq_true rfl)
  rw [lg_entry_eq]
  generalize (lg_sl ([.ref rd]) ++ List.replicate (1 - (lg_sl ([.ref rd])).length) Slot.unset).toArray = ls at hl ⊢
  have hl : lv_has ls 1 [(0, .ref rd)] := hl
  refine lv_aload_n hx hb dX1_stopAtWrong_0 rfl (lv_at hl 0 rfl) ?_
  refine lv_iconst (v := nI 0) hx hb dX1_stopAtWrong_1 (by decide) ?_
  refine va_put (D := D) (ci := 1) (v := .int (nI 0)) (ty := .boolean) (C := RX1) (T := TX1) (N := 7) hx hb hts iw_k_X1_stopAtWrong_1 tyX1 tyX1_ok nmX1 hown hK hP hD hS 0 rfl rfl 3 (by decide) (hts (.fieldLink RX1 48 "BinStreams$Reader" "reading" "Z") (by decide +kernel)) (fun _ h9 => h9) rfl (by decide +kernel) rfl rfl (Nat.le_of_ble_eq_true rfl) dX1_stopAtWrong_2 (fun H locs hP hD hS => ?_)
  have hP : va_P D vwCl [(rd, .inr (1, [.ref rc, .int (nI rg), .int (nI of), .int (nI 0), .ref rb, .int (nI (8 * has)), .int (nI (min pl (8 * has)))])), (rc, .inr (0, [.ref rcs, .ref rcl])), (rcs, .inl (cI, 32, .inl (ai S))), (rcl, .inl (cI, 32, .inl (ai L))), (rb, .inl (cI, 302, .inl (ai Cf)))] H := hP
  have hD : va_D A [(rd, .inr (1, [.ref rc, .int (nI rg), .int (nI of), .int (nI 0), .ref rb, .int (nI (8 * has)), .int (nI (min pl (8 * has)))])), (rc, .inr (0, [.ref rcs, .ref rcl])), (rcs, .inl (cI, 32, .inl (ai S))), (rcl, .inl (cI, 32, .inl (ai L))), (rb, .inl (cI, 302, .inl (ai Cf)))] := hD
  refine lv_ldc (v := 100000) hx hb hown (hts (.constant RX1 81 (100000)) (by decide +kernel)) dX1_stopAtWrong_5 ?_
  refine wk_topI (b := 100000) (by decide) ?_
  exact W.iret (v := nI 100000) hx hb hr (fun t ht hW => ⟨⟨nI 100000, (), rfl, rfl, by rw [ht]; exact hP, va_K.moved hW.alike hK, hD⟩, hS.F ht⟩) hS.2.2 dX1_stopAtWrong_7

theorem iw_k_X1_meetsEnd_1 : ∀ w ∈ u_ws RX1 TX1 7, w ∈ wsX1_meetsEnd := by decide +kernel
set_option maxHeartbeats 1000000 in
set_option maxRecDepth 100000 in
/-- a mark or the end -/
theorem k_X1_meetsEnd (l : Launch) (D : va_G) (cI : ClassId) (rd rc rcs rcl rb : Nat) (sz : Nat) (pl : Nat) (has : Nat) (rg : Nat) (of : Nat) (rdg : Nat) (S : Nat → Nat) (L : Nat → Nat) (Cf : Nat → Nat) (bs : Nat → Nat) (hbs : BS Cf has bs) (hC : ∀ j, j < has → Cf j < 256) (hhas : has ≤ 302) (hpl : pl < 1000000000) (hrg : 256 ≤ rg) (hrg2 : rg < 512) (hof : of < rg) (hpl2 : pl + 7 < 1000000000) : Met l yX1_meetsEnd wsX1_meetsEnd ({ frames := 3, cells := 0, slots := 0, locals := 62 }) (kP D none [.ref rd] [(cI, .int)] [(rd, .inr (1, [.ref rc, .int (nI rg), .int (nI of), .int (nI rdg), .ref rb, .int (nI (8 * has)), .int (nI (min pl (8 * has)))])), (rc, .inr (0, [.ref rcs, .ref rcl])), (rcs, .inl (cI, 32, .inl (ai S))), (rcl, .inl (cI, 32, .inl (ai L))), (rb, .inl (cI, 302, .inl (ai Cf)))] sz) (va_Qi (fun (r : Int32) (u : Nat × Nat × Nat × Nat) => match u with | (rg1, of1, pl1, rd1) => (rg1, of1, pl1) = rmark bs (rg, of, pl) ∧ (if of < rg - 2 then r = nI 0 ∧ rd1 = rdg else r = nI 1 ∧ rd1 = 0)) (fun u t => match u with | (rg1, of1, pl1, rd1) => kB D [(cI, .int)] (va_A [(rd, .inr (1, [.ref rc, .int (nI rg), .int (nI of), .int (nI rdg), .ref rb, .int (nI (8 * has)), .int (nI (min pl (8 * has)))])), (rc, .inr (0, [.ref rcs, .ref rcl])), (rcs, .inl (cI, 32, .inl (ai S))), (rcl, .inl (cI, 32, .inl (ai L))), (rb, .inl (cI, 302, .inl (ai Cf)))] sz) [(rd, .inr (1, [.ref rc, .int (nI rg1), .int (nI of1), .int (nI rd1), .ref rb, .int (nI (8 * has)), .int (nI (min pl1 (8 * has)))])), (rc, .inr (0, [.ref rcs, .ref rcl])), (rcs, .inl (cI, 32, .inl (ai S))), (rcl, .inl (cI, 32, .inl (ai L))), (rb, .inl (cI, 302, .inl (ai Cf)))] t) (va_A [(rd, .inr (1, [.ref rc, .int (nI rg), .int (nI of), .int (nI rdg), .ref rb, .int (nI (8 * has)), .int (nI (min pl (8 * has)))])), (rc, .inr (0, [.ref rcs, .ref rcl])), (rcs, .inl (cI, 32, .inl (ai S))), (rcl, .inl (cI, 32, .inl (ai L))), (rb, .inl (cI, 302, .inl (ai Cf)))] sz)) 0 0 (va_A [(rd, .inr (1, [.ref rc, .int (nI rg), .int (nI of), .int (nI rdg), .ref rb, .int (nI (8 * has)), .int (nI (min pl (8 * has)))])), (rc, .inr (0, [.ref rcs, .ref rcl])), (rcs, .inl (cI, 32, .inl (ai S))), (rcl, .inl (cI, 32, .inl (ai L))), (rb, .inl (cI, 302, .inl (ai Cf)))] sz) := by
  refine Met.ofW (cc := cX1_meetsEnd) (maxL := 1) (ret := (some .boolean)) (by decide) rfl ?_
  intro p e s m args below meth c s₁ B hml hv
  obtain ⟨rfl, hsz, hP, hK, hD0, hev⟩ := hv
  have hx := B.exec
  have hb := B.bytes
  have hr := B.returns
  have hts := atoms_spec (ws := wsX1_meetsEnd) B.pre
  have hown : s.vm.findClass RX1 = some m.cls := findClass_of_methodNamed B.named
  have hlocks := B.notSynchronized
  subst hsz
  have hD := hD0.self (sz := s.heap.size)
  clear hD0
  generalize hAe : va_A [(rd, .inr (1, [.ref rc, .int (nI rg), .int (nI of), .int (nI rdg), .ref rb, .int (nI (8 * has)), .int (nI (min pl (8 * has)))])), (rc, .inr (0, [.ref rcs, .ref rcl])), (rcs, .inl (cI, 32, .inl (ai S))), (rcl, .inl (cI, 32, .inl (ai L))), (rb, .inl (cI, 302, .inl (ai Cf)))] s.heap.size = A at hD hev ⊢
  have hA : ∀ q : Nat, s.heap.size ≤ q → A q := fun q h => by rw [← hAe]; exact Or.inr h
  clear hAe
  have hS : va_S A s.heap s.heap [] := va_S.rf
  have hl := lv_entry ([.ref rd]) (n := 1) (Nat.le_of_ble_eq_true rfl)
  rw [lg_entry_eq]
  generalize (lg_sl ([.ref rd]) ++ List.replicate (1 - (lg_sl ([.ref rd])).length) Slot.unset).toArray = ls at hl ⊢
  have hl : lv_has ls 1 [(0, .ref rd)] := hl
  refine lv_aload_n hx hb dX1_meetsEnd_0 rfl (lv_at hl 0 rfl) ?_
  refine lv_dup hx hb dX1_meetsEnd_1 rfl ?_
  refine va_get (D := D) (ci := 1) (v := .int (nI rg)) (C := RX1) (T := TX1) (N := 7) hx hb hts iw_k_X1_meetsEnd_1 hown hK hP 0 rfl rfl 1 (by decide) (hts (.fieldLink RX1 39 "BinStreams$Reader" "range" "I") (by decide +kernel)) (fun _ h9 => h9) rfl dX1_meetsEnd_2 ?_
  refine lv_iconst (v := nI 2) hx hb dX1_meetsEnd_5 (by decide) ?_
  refine wk_isub hx hb dX1_meetsEnd_6 (by omega) ?_
  refine va_put (D := D) (ci := 1) (v := .int (nI (rg - 2))) (ty := .int) (C := RX1) (T := TX1) (N := 7) hx hb hts iw_k_X1_meetsEnd_1 tyX1 tyX1_ok nmX1 hown hK hP hD hS 0 rfl rfl 1 (by decide) (hts (.fieldLink RX1 39 "BinStreams$Reader" "range" "I") (by decide +kernel)) (fun _ h9 => h9) rfl (by decide +kernel) rfl rfl (Nat.le_of_ble_eq_true rfl) dX1_meetsEnd_7 (fun H locs hP hD hS => ?_)
  have hP : va_P D vwCl [(rd, .inr (1, [.ref rc, .int (nI (rg - 2)), .int (nI of), .int (nI rdg), .ref rb, .int (nI (8 * has)), .int (nI (min pl (8 * has)))])), (rc, .inr (0, [.ref rcs, .ref rcl])), (rcs, .inl (cI, 32, .inl (ai S))), (rcl, .inl (cI, 32, .inl (ai L))), (rb, .inl (cI, 302, .inl (ai Cf)))] H := hP
  have hD : va_D A [(rd, .inr (1, [.ref rc, .int (nI (rg - 2)), .int (nI of), .int (nI rdg), .ref rb, .int (nI (8 * has)), .int (nI (min pl (8 * has)))])), (rc, .inr (0, [.ref rcs, .ref rcl])), (rcs, .inl (cI, 32, .inl (ai S))), (rcl, .inl (cI, 32, .inl (ai L))), (rb, .inl (cI, 302, .inl (ai Cf)))] := hD
  refine lv_aload_n hx hb dX1_meetsEnd_10 rfl (lv_at hl 0 rfl) ?_
  refine va_get (D := D) (ci := 1) (v := .int (nI of)) (C := RX1) (T := TX1) (N := 7) hx hb hts iw_k_X1_meetsEnd_1 hown hK hP 0 rfl rfl 2 (by decide) (hts (.fieldLink RX1 42 "BinStreams$Reader" "offset" "I") (by decide +kernel)) (fun _ h9 => h9) rfl dX1_meetsEnd_11 ?_
  refine lv_aload_n hx hb dX1_meetsEnd_14 rfl (lv_at hl 0 rfl) ?_
  refine va_get (D := D) (ci := 1) (v := .int (nI (rg - 2))) (C := RX1) (T := TX1) (N := 7) hx hb hts iw_k_X1_meetsEnd_1 hown hK hP 0 rfl rfl 1 (by decide) (hts (.fieldLink RX1 39 "BinStreams$Reader" "range" "I") (by decide +kernel)) (fun _ h9 => h9) rfl dX1_meetsEnd_15 ?_
  refine wk_lt (tgt := 28) hx hb dX1_meetsEnd_18 (by decide) (by omega) (by omega) (fun c_18 => ?_) (fun c_18 => ?_)
  · refine lv_aload_n hx hb dX1_meetsEnd_28 rfl (lv_at hl 0 rfl) ?_
    have hPc := hP.sub (ws' := [(rd, .inr (1, [.ref rc, .int (nI (rg - 2)), .int (nI of), .int (nI rdg), .ref rb, .int (nI (8 * has)), .int (nI (min pl (8 * has)))])), (rc, .inr (0, [.ref rcs, .ref rcl])), (rcs, .inl (cI, 32, .inl (ai S))), (rcl, .inl (cI, 32, .inl (ai L))), (rb, .inl (cI, 302, .inl (ai Cf)))]) [0, 1, 2, 3, 4] rfl
    have hDc := hD.sub (ws' := [(rd, .inr (1, [.ref rc, .int (nI (rg - 2)), .int (nI of), .int (nI rdg), .ref rb, .int (nI (8 * has)), .int (nI (min pl (8 * has)))])), (rc, .inr (0, [.ref rcs, .ref rcl])), (rcs, .inl (cI, 32, .inl (ai S))), (rcl, .inl (cI, 32, .inl (ai L))), (rb, .inl (cI, 302, .inl (ai Cf)))]) [0, 1, 2, 3, 4] (by decide) rfl
    have hFc := va_free (wc := [(rd, .inr (1, [.ref rc, .int (nI (rg - 2)), .int (nI of), .int (nI rdg), .ref rb, .int (nI (8 * has)), .int (nI (min pl (8 * has)))])), (rc, .inr (0, [.ref rcs, .ref rcl])), (rcs, .inl (cI, 32, .inl (ai S))), (rcl, .inl (cI, 32, .inl (ai L))), (rb, .inl (cI, 302, .inl (ai Cf)))]) hD hS hA [0, 1, 2, 3, 4] rfl
    refine va_callv (va_runV (As := []) (rest := []) ⟨hx, hb, hml, hown, hts⟩ (k_X1_shift l D cI rd rc rcs rcl rb H.size pl has (rg - 2) of rdg S L Cf bs (by exact hbs) (by exact hC) (by omega) (by omega) (by omega) (by omega)) (cwV 0 hts gX1_meetsEnd_X1_shift rfl rfl rfl (by decide +kernel) ⟨Nat.le_of_ble_eq_true rfl, Nat.le_of_ble_eq_true rfl⟩) ⟨kP_blind, va_recv hK hPc (ci := 1) (q0 := 0) rfl rfl, kP_pre hPc hK hDc evo_none⟩ rfl rfl hl.1 rfl (lv_room (Nat.le_of_ble_eq_true rfl)) dX1_meetsEnd_29 ⟨Nat.le_of_ble_eq_true rfl, Nat.le_of_ble_eq_true rfl⟩) hS (fun q _ h => hFc q h) hFc (fun u t H1 locs ht hvm hsh hB hz1 hk1 hS => ?_)
    obtain ⟨rg1, of1, pl1⟩ := u
    obtain ⟨hP1, hK1, hD1⟩ := hB
    rw [ht] at hP1
    obtain ⟨hP, hD⟩ := va_join (wc := [(rd, .inr (1, [.ref rc, .int (nI (rg - 2)), .int (nI of), .int (nI rdg), .ref rb, .int (nI (8 * has)), .int (nI (min pl (8 * has)))])), (rc, .inr (0, [.ref rcs, .ref rcl])), (rcs, .inl (cI, 32, .inl (ai S))), (rcl, .inl (cI, 32, .inl (ai L))), (rb, .inl (cI, 302, .inl (ai Cf)))]) (wr := []) (w1 := [(rd, .inr (1, [.ref rc, .int (nI rg1), .int (nI of1), .int (nI rdg), .ref rb, .int (nI (8 * has)), .int (nI (min pl1 (8 * has)))])), (rc, .inr (0, [.ref rcs, .ref rcl])), (rcs, .inl (cI, 32, .inl (ai S))), (rcl, .inl (cI, 32, .inl (ai L))), (rb, .inl (cI, 302, .inl (ai Cf)))]) hP hD [0, 1, 2, 3, 4] [] rfl rfl (by decide) (by decide) hk1 hFc hP1 hD1
    clear hP1 hK1 hD1 hPc hDc hFc hk1 hz1 hvm ht
    have hP : va_P D vwCl [(rd, .inr (1, [.ref rc, .int (nI rg1), .int (nI of1), .int (nI rdg), .ref rb, .int (nI (8 * has)), .int (nI (min pl1 (8 * has)))])), (rc, .inr (0, [.ref rcs, .ref rcl])), (rcs, .inl (cI, 32, .inl (ai S))), (rcl, .inl (cI, 32, .inl (ai L))), (rb, .inl (cI, 302, .inl (ai Cf)))] H1 := hP.sub [0, 1, 2, 3, 4] rfl
    have hD : va_D A [(rd, .inr (1, [.ref rc, .int (nI rg1), .int (nI of1), .int (nI rdg), .ref rb, .int (nI (8 * has)), .int (nI (min pl1 (8 * has)))])), (rc, .inr (0, [.ref rcs, .ref rcl])), (rcs, .inl (cI, 32, .inl (ai S))), (rcl, .inl (cI, 32, .inl (ai L))), (rb, .inl (cI, 302, .inl (ai Cf)))] := hD.sub [0, 1, 2, 3, 4] (by decide) rfl
    try dsimp only at hsh
    refine lv_iconst (v := nI 0) hx hb dX1_meetsEnd_32 (by decide) ?_
    exact W.zret (v := nI 0) (ty := .boolean) hx hb hr rfl (fun t ht hW => ⟨⟨nI 0, (rg1, of1, pl1, rdg), rfl, ⟨by rw [hsh]; unfold rmark; rw [if_pos (by dsimp only; omega)], by rw [if_pos (by omega)]; exact ⟨rfl, rfl⟩⟩, by rw [ht]; exact hP, va_K.moved hW.alike hK, hD⟩, hS.F ht⟩) hS.2.2 dX1_meetsEnd_33
  · refine lv_aload_n hx hb dX1_meetsEnd_21 rfl (lv_at hl 0 rfl) ?_
    refine lv_iconst (v := nI 0) hx hb dX1_meetsEnd_22 (by decide) ?_
    refine va_put (D := D) (ci := 1) (v := .int (nI 0)) (ty := .boolean) (C := RX1) (T := TX1) (N := 7) hx hb hts iw_k_X1_meetsEnd_1 tyX1 tyX1_ok nmX1 hown hK hP hD hS 0 rfl rfl 3 (by decide) (hts (.fieldLink RX1 48 "BinStreams$Reader" "reading" "Z") (by decide +kernel)) (fun _ h9 => h9) rfl (by decide +kernel) rfl rfl (Nat.le_of_ble_eq_true rfl) dX1_meetsEnd_23 (fun H locs hP hD hS => ?_)
    have hP : va_P D vwCl [(rd, .inr (1, [.ref rc, .int (nI (rg - 2)), .int (nI of), .int (nI 0), .ref rb, .int (nI (8 * has)), .int (nI (min pl (8 * has)))])), (rc, .inr (0, [.ref rcs, .ref rcl])), (rcs, .inl (cI, 32, .inl (ai S))), (rcl, .inl (cI, 32, .inl (ai L))), (rb, .inl (cI, 302, .inl (ai Cf)))] H := hP
    have hD : va_D A [(rd, .inr (1, [.ref rc, .int (nI (rg - 2)), .int (nI of), .int (nI 0), .ref rb, .int (nI (8 * has)), .int (nI (min pl (8 * has)))])), (rc, .inr (0, [.ref rcs, .ref rcl])), (rcs, .inl (cI, 32, .inl (ai S))), (rcl, .inl (cI, 32, .inl (ai L))), (rb, .inl (cI, 302, .inl (ai Cf)))] := hD
    refine lv_iconst (v := nI 1) hx hb dX1_meetsEnd_26 (by decide) ?_
    exact W.zret (v := nI 1) (ty := .boolean) hx hb hr rfl (fun t ht hW => ⟨⟨nI 1, (rg - 2, of, pl, 0), rfl, ⟨by unfold rmark; rw [if_neg (by dsimp only; omega)], by rw [if_neg (by omega)]; exact ⟨rfl, rfl⟩⟩, by rw [ht]; exact hP, va_K.moved hW.alike hK, hD⟩, hS.F ht⟩) hS.2.2 dX1_meetsEnd_27
