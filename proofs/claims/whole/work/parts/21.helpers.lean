set_option maxHeartbeats 1000000 in
set_option maxRecDepth 100000 in
theorem k_X3_withoutSign (l : Launch) (D : va_G) (cI : ClassId) (sz : Nat) (x1 : Int32) (hok : numOK 1 x1 = true) : Met l yX3_withoutSign wsX3_withoutSign ({ frames := 0, cells := 0, slots := 0, locals := 0 }) (kP D none [.int x1] [(cI, .int)] [] sz) (va_Qi (fun (r : Int32) (u : Unit) => match u with | () => r = nI (sgnN x1)) (fun u t => match u with | () => kB D [(cI, .int)] (va_A [] sz) [] t) (va_A [] sz)) 0 0 (va_A [] sz) := by
  refine Met.ofW (cc := cX3_withoutSign) (maxL := 1) (ret := (some .int)) (by decide) rfl ?_
  intro p e s m args below meth c s₁ B hml hv
  obtain ⟨rfl, hsz, hP, hK, hD0, hev⟩ := hv
  have hx := B.exec
  have hb := B.bytes
  have hr := B.returns
  have hts := atoms_spec (ws := wsX3_withoutSign) B.pre
  have hown : s.vm.findClass RX3 = some m.cls := findClass_of_methodNamed B.named
  have hlocks := B.notSynchronized
  subst hsz
  have hD := hD0.self (sz := s.heap.size)
  clear hD0
  generalize hAe : va_A [] s.heap.size = A at hD hev ⊢
  have hA : ∀ q : Nat, s.heap.size ≤ q → A q := fun q h => by rw [← hAe]; exact Or.inr h
  clear hAe
  have hS : va_S A s.heap s.heap [] := va_S.rf
  have hl := lv_entry ([.int x1]) (n := 1) (Nat.le_of_ble_eq_true rfl)
  rw [lg_entry_eq]
  generalize (lg_sl ([.int x1]) ++ List.replicate (1 - (lg_sl ([.int x1])).length) Slot.unset).toArray = ls at hl ⊢
  have hl : lv_has ls 1 [(0, .int x1)] := hl
  refine lv_iload_n hx hb dX3_withoutSign_0 rfl (lv_at hl 0 rfl) ?_
  refine lv_if_le (tgt := 12) hx hb dX3_withoutSign_1 (by decide)  (fun c_1 => ?_) (fun c_1 => ?_)
  · refine lv_bipush (v := (-2)) hx hb dX3_withoutSign_12 (by decide) ?_
    refine lv_iload_n hx hb dX3_withoutSign_14 rfl (lv_at hl 0 rfl) ?_
    refine lv_imul hx hb dX3_withoutSign_15 ?_
    exact W.iret (v := ((-2)) * (x1)) hx hb hr (fun t ht hW => ⟨⟨((-2)) * (x1), (), rfl, sgn_neg c_1 ((num_s (by decide)).mp hok).1, by rw [ht]; exact hP, va_K.moved hW.alike hK, hD⟩, hS.F ht⟩) hS.2.2 dX3_withoutSign_16
  · refine lv_iconst (v := nI 2) hx hb dX3_withoutSign_4 (by decide) ?_
    refine lv_iload_n hx hb dX3_withoutSign_5 rfl (lv_at hl 0 rfl) ?_
    refine lv_imul hx hb dX3_withoutSign_6 ?_
    refine lv_iconst (v := nI 1) hx hb dX3_withoutSign_7 (by decide) ?_
    refine lv_isub hx hb dX3_withoutSign_8 ?_
    refine lv_goto (tgt := 16) hx hb dX3_withoutSign_9 (by decide) ?_
    exact W.iret (v := ((nI 2) * (x1)) - (nI 1)) hx hb hr (fun t ht hW => ⟨⟨((nI 2) * (x1)) - (nI 1), (), rfl, sgn_pos c_1 ((num_s (by decide)).mp hok).2, by rw [ht]; exact hP, va_K.moved hW.alike hK, hD⟩, hS.F ht⟩) hS.2.2 dX3_withoutSign_16

set_option maxHeartbeats 1000000 in
set_option maxRecDepth 100000 in
theorem k_X3_withSign (l : Launch) (D : va_G) (cI : ClassId) (sz : Nat) (un : Nat) (hu : un ≤ 65535) : Met l yX3_withSign wsX3_withSign ({ frames := 0, cells := 0, slots := 0, locals := 0 }) (kP D none [.int (nI un)] [(cI, .int)] [] sz) (va_Qi (fun (r : Int32) (u : Unit) => match u with | () => r = wsg un) (fun u t => match u with | () => kB D [(cI, .int)] (va_A [] sz) [] t) (va_A [] sz)) 0 0 (va_A [] sz) := by
  refine Met.ofW (cc := cX3_withSign) (maxL := 1) (ret := (some .int)) (by decide) rfl ?_
  intro p e s m args below meth c s₁ B hml hv
  obtain ⟨rfl, hsz, hP, hK, hD0, hev⟩ := hv
  have hx := B.exec
  have hb := B.bytes
  have hr := B.returns
  have hts := atoms_spec (ws := wsX3_withSign) B.pre
  have hown : s.vm.findClass RX3 = some m.cls := findClass_of_methodNamed B.named
  have hlocks := B.notSynchronized
  subst hsz
  have hD := hD0.self (sz := s.heap.size)
  clear hD0
  generalize hAe : va_A [] s.heap.size = A at hD hev ⊢
  have hA : ∀ q : Nat, s.heap.size ≤ q → A q := fun q h => by rw [← hAe]; exact Or.inr h
  clear hAe
  have hS : va_S A s.heap s.heap [] := va_S.rf
  have hl := lv_entry ([.int (nI un)]) (n := 1) (Nat.le_of_ble_eq_true rfl)
  rw [lg_entry_eq]
  generalize (lg_sl ([.int (nI un)]) ++ List.replicate (1 - (lg_sl ([.int (nI un)])).length) Slot.unset).toArray = ls at hl ⊢
  have hl : lv_has ls 1 [(0, .int (nI un))] := hl
  refine lv_iload_n hx hb dX3_withSign_0 rfl (lv_at hl 0 rfl) ?_
  refine lv_iconst (v := nI 2) hx hb dX3_withSign_1 (by decide) ?_
  refine wk_irem hx hb dX3_withSign_2 (by omega) (by omega) (by omega) ?_
  refine lv_iconst (v := nI 1) hx hb dX3_withSign_3 (by decide) ?_
  refine wk_ne (tgt := 15) hx hb dX3_withSign_4 (by decide) (by omega) (by omega) (fun c_4 => ?_) (fun c_4 => ?_)
  · refine lv_iload_n hx hb dX3_withSign_15 rfl (lv_at hl 0 rfl) ?_
    refine lv_iconst (v := nI 2) hx hb dX3_withSign_16 (by decide) ?_
    refine wk_idiv hx hb dX3_withSign_17 (by omega) (by omega) (by omega) ?_
    refine lv_ineg hx hb dX3_withSign_18 ?_
    exact W.iret (v := -(nI (un / 2))) hx hb hr (fun t ht hW => ⟨⟨-(nI (un / 2)), (), rfl, by dsimp only; unfold wsg; rw [if_neg c_4], by rw [ht]; exact hP, va_K.moved hW.alike hK, hD⟩, hS.F ht⟩) hS.2.2 dX3_withSign_19
  · refine lv_iload_n hx hb dX3_withSign_7 rfl (lv_at hl 0 rfl) ?_
    refine lv_iconst (v := nI 1) hx hb dX3_withSign_8 (by decide) ?_
    refine wk_iadd hx hb dX3_withSign_9 ?_
    refine lv_iconst (v := nI 2) hx hb dX3_withSign_10 (by decide) ?_
    refine wk_idiv hx hb dX3_withSign_11 (by omega) (by omega) (by omega) ?_
    refine lv_goto (tgt := 19) hx hb dX3_withSign_12 (by decide) ?_
    exact W.iret (v := nI ((un + 1) / 2)) hx hb hr (fun t ht hW => ⟨⟨nI ((un + 1) / 2), (), rfl, by dsimp only; unfold wsg; rw [if_pos c_4], by rw [ht]; exact hP, va_K.moved hW.alike hK, hD⟩, hS.F ht⟩) hS.2.2 dX3_withSign_19

set_option maxHeartbeats 1000000 in
set_option maxRecDepth 100000 in
theorem k_X3_binsOfNumber (l : Launch) (D : va_G) (cI : ClassId) (sz : Nat) (oo : Nat) (un : Nat) (hoo : oo ≤ 4) (hu : un ≤ 65535) : Met l yX3_binsOfNumber wsX3_binsOfNumber ({ frames := 0, cells := 0, slots := 0, locals := 0 }) (kP D none [.int (nI oo), .int (nI un)] [(cI, .int)] [] sz) (va_Qi (fun (r : Int32) (u : Unit) => match u with | () => r = nI (gbins oo un)) (fun u t => match u with | () => kB D [(cI, .int)] (va_A [] sz) [] t) (va_A [] sz)) 0 0 (va_A [] sz) := by
  refine Met.ofW (cc := cX3_binsOfNumber) (maxL := 5) (ret := (some .int)) (by decide) rfl ?_
  intro p e s m args below meth c s₁ B hml hv
  obtain ⟨rfl, hsz, hP, hK, hD0, hev⟩ := hv
  have hx := B.exec
  have hb := B.bytes
  have hr := B.returns
  have hts := atoms_spec (ws := wsX3_binsOfNumber) B.pre
  have hown : s.vm.findClass RX3 = some m.cls := findClass_of_methodNamed B.named
  have hlocks := B.notSynchronized
  subst hsz
  have hD := hD0.self (sz := s.heap.size)
  clear hD0
  generalize hAe : va_A [] s.heap.size = A at hD hev ⊢
  have hA : ∀ q : Nat, s.heap.size ≤ q → A q := fun q h => by rw [← hAe]; exact Or.inr h
  clear hAe
  have hS : va_S A s.heap s.heap [] := va_S.rf
  have hl := lv_entry ([.int (nI oo), .int (nI un)]) (n := 5) (Nat.le_of_ble_eq_true rfl)
  rw [lg_entry_eq]
  generalize (lg_sl ([.int (nI oo), .int (nI un)]) ++ List.replicate (5 - (lg_sl ([.int (nI oo), .int (nI un)])).length) Slot.unset).toArray = ls at hl ⊢
  have hl : lv_has ls 5 [(0, .int (nI oo)), (1, .int (nI un))] := hl
  refine wk_Q (fun QQ hQQ => ?_)
  refine lv_iload_n hx hb dX3_binsOfNumber_0 rfl (lv_at hl 1 rfl) ?_
  refine lv_istore_n (lv' := [(2, .int (nI un)), (0, .int (nI oo)), (1, .int (nI un))]) hx hb dX3_binsOfNumber_1 rfl hl (by decide) rfl (fun ls hl => ?_)
  refine lv_iconst (v := nI 0) hx hb dX3_binsOfNumber_2 (by decide) ?_
  refine lv_istore_n (lv' := [(3, .int (nI 0)), (2, .int (nI un)), (0, .int (nI oo)), (1, .int (nI un))]) hx hb dX3_binsOfNumber_3 rfl hl (by decide) rfl (fun ls hl => ?_)
  refine lv_iload_n hx hb dX3_binsOfNumber_4 rfl (lv_at hl 2 rfl) ?_
  refine lv_istore (lv' := [(4, .int (nI oo)), (3, .int (nI 0)), (2, .int (nI un)), (0, .int (nI oo)), (1, .int (nI un))]) hx hb dX3_binsOfNumber_5 hl (by decide) rfl (fun ls hl => ?_)
  have key7 : ∀ (n9 : Nat), ∀ (k : Nat), ∀ (left : Nat), 17 - k < n9 → (oo ≤ k) → (k ≤ 16) → (left + 2 ^ k = un + 2 ^ oo) → ∀ (H : Heap) (locs : List Loc), va_P D vwCl [] H → va_D A [] → va_S A s.heap H locs → ∀ (ls : Array Slot), lv_has ls 5 [(0, .int (nI oo)), (1, .int (nI un)), (2, .int (nI left)), (3, .int (nI (k - oo))), (4, .int (nI k))] → W p l e (headSpec wsX3_binsOfNumber ({ frames := 0, cells := 0, slots := 0, locals := 0 })).room s m [.int (nI oo), .int (nI un)].toArray below meth c H locs 0 0 QQ (F0 m 7 ls []) := by
    clear hP hD hS hl
    intro n9
    induction n9 with
    | zero => intro k left h9; exact absurd h9 (Nat.not_lt_zero _)
    | succ n9 ih9 =>
      intro k left h9 hk1 hk2 hlf H locs hP hD hS ls hl
      have hp := pw16 hk2
      have hpo := pw16 (show oo ≤ 16 by omega)
      have hp0 := Nat.two_pow_pos k
      have hpo0 := Nat.two_pow_pos oo
      refine lv_iload hx hb dX3_binsOfNumber_7 (lv_at hl 4 rfl) ?_
      refine lv_bipush (v := nI 16) hx hb dX3_binsOfNumber_9 (by decide) ?_
      have key38 : ∀ (k : Nat), (oo ≤ k) → (k ≤ 16) → (k = Nat.log2 (un + 2 ^ oo)) → ∀ (H : Heap) (locs : List Loc), va_P D vwCl [] H → va_D A [] → va_S A s.heap H locs → ∀ (ls : Array Slot), lv_has ls 5 [(0, .int (nI oo)), (3, .int (nI (k - oo))), (4, .int (nI k))] → W p l e (headSpec wsX3_binsOfNumber ({ frames := 0, cells := 0, slots := 0, locals := 0 })).room s m [.int (nI oo), .int (nI un)].toArray below meth c H locs 0 0 QQ (F0 m 38 ls []) := by
        clear hP hD hS hl
        intro k hk1 hk2 hlg H locs hP hD hS ls hl
        refine lv_iload_n hx hb dX3_binsOfNumber_38 rfl (lv_at hl 1 rfl) ?_
        refine lv_iconst (v := nI 1) hx hb dX3_binsOfNumber_39 (by decide) ?_
        refine wk_iadd hx hb dX3_binsOfNumber_40 ?_
        refine lv_iload_n hx hb dX3_binsOfNumber_41 rfl (lv_at hl 0 rfl) ?_
        refine wk_iadd hx hb dX3_binsOfNumber_42 ?_
        refine lv_iload_n hx hb dX3_binsOfNumber_43 rfl (lv_at hl 1 rfl) ?_
        refine wk_iadd hx hb dX3_binsOfNumber_44 ?_
        rw [hQQ]
        exact W.iret (v := nI ((((k - oo) + 1) + oo) + (k - oo))) hx hb hr (fun t ht hW => ⟨⟨nI ((((k - oo) + 1) + oo) + (k - oo)), (), rfl, by dsimp only; unfold gbins; rw [← hlg]; congr 1; omega, by rw [ht]; exact hP, va_K.moved hW.alike hK, hD⟩, hS.F ht⟩) hS.2.2 dX3_binsOfNumber_45
      refine wk_ge (tgt := 38) hx hb dX3_binsOfNumber_11 (by decide) (by omega) (by omega) (fun c_11 => ?_) (fun c_11 => ?_)
      · exact key38 k (by omega) (by omega) (by exact log2_is (by omega) (by rw [Nat.pow_succ]; first | omega | (rw [show k = 16 from by omega] at hlf ⊢; omega))) _ _ hP hD hS ls (lv_sub hl [0, 3, 4] rfl)
      · refine lv_iload_n hx hb dX3_binsOfNumber_14 rfl (lv_at hl 2 rfl) ?_
        refine lv_iconst (v := nI 1) hx hb dX3_binsOfNumber_15 (by decide) ?_
        refine lv_iload hx hb dX3_binsOfNumber_16 (lv_at hl 4 rfl) ?_
        refine wk_ishl hx hb dX3_binsOfNumber_18 (by omega) (by omega) ?_
        refine wk_lt (tgt := 38) hx hb dX3_binsOfNumber_19 (by decide) (by omega) (by omega) (fun c_19 => ?_) (fun c_19 => ?_)
        · exact key38 k (by omega) (by omega) (by exact log2_is (by omega) (by rw [Nat.pow_succ]; first | omega | (rw [show k = 16 from by omega] at hlf ⊢; omega))) _ _ hP hD hS ls (lv_sub hl [0, 3, 4] rfl)
        · refine lv_iload_n hx hb dX3_binsOfNumber_22 rfl (lv_at hl 2 rfl) ?_
          refine lv_iconst (v := nI 1) hx hb dX3_binsOfNumber_23 (by decide) ?_
          refine lv_iload hx hb dX3_binsOfNumber_24 (lv_at hl 4 rfl) ?_
          refine wk_ishl hx hb dX3_binsOfNumber_26 (by omega) (by omega) ?_
          refine wk_isub hx hb dX3_binsOfNumber_27 (by omega) ?_
          refine lv_istore_n (lv' := [(2, .int (nI (left - (1 * 2 ^ k)))), (0, .int (nI oo)), (1, .int (nI un)), (3, .int (nI (k - oo))), (4, .int (nI k))]) hx hb dX3_binsOfNumber_28 rfl hl (by decide) rfl (fun ls hl => ?_)
          refine lv_iinc (v := nI (k - oo + 1)) (lv' := [(3, .int (nI (k - oo + 1))), (2, .int (nI (left - (1 * 2 ^ k)))), (0, .int (nI oo)), (1, .int (nI un)), (4, .int (nI k))]) hx hb dX3_binsOfNumber_29 hl (k := 3) rfl (by exact nI_add _ 1) (by decide) rfl (fun ls hl => ?_)
          refine lv_iinc (v := nI (k + 1)) (lv' := [(4, .int (nI (k + 1))), (3, .int (nI (k - oo + 1))), (2, .int (nI (left - (1 * 2 ^ k)))), (0, .int (nI oo)), (1, .int (nI un))]) hx hb dX3_binsOfNumber_32 hl (k := 4) rfl (by exact nI_add _ 1) (by decide) rfl (fun ls hl => ?_)
          refine lv_goto (tgt := 7) hx hb dX3_binsOfNumber_35 (by decide) ?_
          have hloc_1 : (k - oo + 1) = ((k + 1) - oo) := by omega
          have hl : lv_has ls 5 [(4, .int (nI (k + 1))), (3, .int (nI ((k + 1) - oo))), (2, .int (nI (left - (1 * 2 ^ k)))), (0, .int (nI oo)), (1, .int (nI un))] := (congrArg (fun z9 : Nat => lv_has ls 5 [(4, .int (nI (k + 1))), (3, .int (nI z9)), (2, .int (nI (left - (1 * 2 ^ k)))), (0, .int (nI oo)), (1, .int (nI un))]) hloc_1).mp hl
          exact ih9 (k + 1) (left - (1 * 2 ^ k)) (by omega) (by omega) (by omega) (by rw [Nat.pow_succ]; omega) _ _ hP hD hS ls (lv_sub hl [3, 4, 2, 1, 0] rfl)
  have hloc_2 : (0) = (oo - oo) := by omega
  have hl : lv_has ls 5 [(4, .int (nI oo)), (3, .int (nI (oo - oo))), (2, .int (nI un)), (0, .int (nI oo)), (1, .int (nI un))] := (congrArg (fun z9 : Nat => lv_has ls 5 [(4, .int (nI oo)), (3, .int (nI z9)), (2, .int (nI un)), (0, .int (nI oo)), (1, .int (nI un))]) hloc_2).mp hl
  exact key7 ((17 - oo) + 1) oo un (by omega) (by omega) (by omega) (by rfl) _ _ hP hD hS ls (lv_sub hl [3, 4, 2, 1, 0] rfl)
