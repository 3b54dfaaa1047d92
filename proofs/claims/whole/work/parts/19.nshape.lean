/-! For the constructors: links to private constructors of nest mates; arrays of one kind. -/
def evK (U : State) : Prop := va_Nw (.methodLinkNest RX3 9 yX0_init "BinStreams") U ∧ va_Nw (.methodLinkNest RX3 18 yX2_init "BinStreams") U ∧ va_Nw (.methodLinkNest RX3 25 yX1_init "BinStreams") U ∧ va_Nw (.methodLinkNest RX1 11 yX0_init "BinStreams") U ∧ va_Nw (.methodLinkNest RX2 11 yX0_init "BinStreams") U
theorem evK.warm {s U : State} (hW : s.WarmedH U.vm) (h : evK s) : evK U := ⟨va_Nw.warmM hW h.1, va_Nw.warmM hW h.2.1, va_Nw.warmM hW h.2.2.1, va_Nw.warmM hW h.2.2.2.1, va_Nw.warmM hW h.2.2.2.2⟩
theorem evK.same {s U : State} (hv : s.vm = U.vm) (h : evK s) : evK U := ⟨va_Nw.same rfl hv h.1, va_Nw.same rfl hv h.2.1, va_Nw.same rfl hv h.2.2.1, va_Nw.same rfl hv h.2.2.2.1, va_Nw.same rfl hv h.2.2.2.2⟩
abbrev kPn (D : va_G) (av : List Value) (tys : List (ClassId × FieldType)) (ws : va_W) (sz : Nat) : Array Value → State → Prop := va_Pc av (fun U => U.heap.size = sz ∧ va_P D vwCl ws U.heap ∧ va_K D vwCl tys U ∧ va_D (fun _ => True) ws ∧ evK U)
theorem kPn_blind {D : va_G} {av : List Value} {tys : List (ClassId × FieldType)} {ws : va_W} {sz : Nat} : FrameBlind (kPn D av tys ws sz) := fun a U g mk q => by
  obtain ⟨q0, q1, qP, qK, qD, qE⟩ := q
  exact ⟨q0, q1, qP, va_K.moved (u := U) (U := U.calling g mk a) (Vm.Alike.refl U.vm) qK, qD, evK.same (s := U) (U := U.calling g mk a) rfl qE⟩
theorem kPn_pre {D : va_G} {av : List Value} {tys : List (ClassId × FieldType)} {wc : va_W} {s : State} {H : Heap} {A : Nat → Prop} (hPc : va_P D vwCl wc H) (hK : va_K D vwCl tys s) (hDc : va_D A wc) (hE : evK s) : ∀ U : State, U.heap = H → s.WarmedH U.vm → kPn D av tys wc H.size av.toArray U := fun U hU hW => ⟨rfl, by rw [hU], by rw [hU]; exact hPc, va_K.moved hW.alike hK, hDc.weaken (fun _ _ _ _ => trivial), hE.warm hW⟩
theorem cI_eq {D : va_G} {cl : List vw_C} {tys : List (ClassId × FieldType)} {s : State} {c1 c2 : ClassId} (hK : va_K D cl tys s) (i j : Nat) (h1 : tys[i]? = some (c1, .int)) (h2 : tys[j]? = some (c2, .int)) : c2 = c1 := by
  have a : s.vm.findClass ("[" ++ FieldType.int.toString) = some c1 := (hK.2 i _ h1).2
  have b : s.vm.findClass ("[" ++ FieldType.int.toString) = some c2 := (hK.2 j _ h2).2
  exact Option.some.inj (b.symm.trans a)
theorem ai_new (n : Nat) (cA : ClassId) : vp_cell cA (n, .inl (ai (fun _ => 0))) = arrV cA n (fun _ => defaultValue .int) := by
  show arrV cA n (fun _ => .int (nI 0)) = arrV cA n (fun _ => .int 0)
  rw [nI_0]
