/-! Shapes of our contracts, and what lies around them that nobody changes. -/
section WK2
variable {p : Program} {l : Launch} {e : Env} {R : Room} {s : State} {m : MethodId} {args : Array Value} {below : List Frame} {meth : Method} {c : Code} {H : Heap} {locs : List Loc} {cells slots : Nat} {Q : State → Prop} {cc : ByteArray} {pc : Nat} {ls : Array Slot} {rest : List Value} {g : JFrame}
theorem wk_Q (k : ∀ Q' : State → Prop, Q' = Q → W p l e R s m args below meth c H locs cells slots Q' g) : W p l e R s m args below meth c H locs cells slots Q g := k Q rfl
theorem wk_top {a b : Nat} (h : a = b) (k : W p l e R s m args below meth c H locs cells slots Q (F0 m pc ls (.int (nI b) :: rest))) : W p l e R s m args below meth c H locs cells slots Q (F0 m pc ls (.int (nI a) :: rest)) := by rw [h]; exact k
theorem wk_topI {a : Int32} {b : Nat} (h : a = nI b) (k : W p l e R s m args below meth c H locs cells slots Q (F0 m pc ls (.int (nI b) :: rest))) : W p l e R s m args below meth c H locs cells slots Q (F0 m pc ls (.int a :: rest)) := by rw [h]; exact k
theorem wk_mmin (hx : p.tables.exec = Jvm.exec) (hb : c.code = cc) (hml : c.maxLocals = ls.size) {own : String} {index : Nat} (hown : s.vm.findClass own = some m.cls) (hlink : (Cond.methodLink own index Lib.Math.min.name).before args s = true) (hstat : (Cond.static Lib.Math.min.name).before args s = true) (hini : (Cond.initialized "java/lang/Math").before args s = true) (hcode : (Cond.code Lib.Math.min.name Lib.Math.min.code 2 (some .int)).before args s = true)
    (hframes : 1 ≤ R.frames) (hlocals : (rest.map fun v => v.category).sum + 13 ≤ R.locals) (hc : cells ≤ R.cells) (hs : slots ≤ R.slots) {a b : Nat} (h1 : a < 2147483648) (h2 : b < 2147483648) (hdg : decode cc pc = .ok (.invokestatic index, 3))
    (k : W p l e R s m args below meth c H locs cells slots Q (F0 m (pc + 3) ls (.int (nI (min a b)) :: rest))) : W p l e R s m args below meth c H locs cells slots Q (F0 m pc ls (.int (nI b) :: .int (nI a) :: rest)) := va_mmin hx hb hml hown hlink hstat hini hcode hframes hlocals hc hs hdg (by
  by_cases h : b < a
  · rw [if_pos ((nI_ltI h2 h1).mpr h)]; rw [show min a b = b from Nat.min_eq_right (Nat.le_of_lt h)] at k; exact k
  · rw [if_neg (fun z => h ((nI_ltI h2 h1).mp z))]; rw [show min a b = a from Nat.min_eq_left (Nat.le_of_not_lt h)] at k; exact k)
def ncpy (f g : Nat → Nat) (sp dp n : Nat) : Nat → Nat := fun j => if dp ≤ j ∧ j < dp + n then f (sp + (j - dp)) else g j
theorem ai_cpy (f g : Nat → Nat) (sp dp n : Nat) : va_cpy (ai f) (ai g) sp dp n = ai (ncpy f g sp dp n) := by
  funext j
  by_cases h : dp ≤ j ∧ j < dp + n
  · rw [pk_cpy_in h.1 h.2]; show nI _ = nI (ncpy f g sp dp n j); simp [ncpy, h]
  · rw [pk_cpy_out (by omega)]; show nI _ = nI (ncpy f g sp dp n j); simp [ncpy, h]
variable {D : va_G} {cl : List vw_C} {A : Nat → Prop} {a : Nat} {tys : List (ClassId × FieldType)} {ws : va_W} {H0 : Heap}
theorem wk_copy (hx : p.tables.exec = Jvm.exec) (hb : c.code = cc) (hml : c.maxLocals = ls.size) {own : String} {index : Nat} (hown : s.vm.findClass own = some m.cls) (hlink : (Cond.methodLink own index arraycopyName).before args s = true) (hnat : (Cond.native arraycopyName).before args s = true) (hstat : (Cond.static arraycopyName).before args s = true) (hini : (Cond.initialized "java/lang/System").before args s = true)
    (hK : va_K D cl tys s) (hP : va_P D cl ws H) (hD : va_D A ws) (hS : va_S A s.heap H locs) (q0 q1 t0 t1 : Nat) {a0 : Nat} {c0 c1 : ClassId} {n0 n1 : Nat} {f g : Nat → Nat} (ha0 : ws[q0]? = some (a0, .inl (c0, n0, .inl (ai f)))) (ha1 : ws[q1]? = some (a, .inl (c1, n1, .inl (ai g)))) (ht0 : tys[t0]? = some (c0, .int)) (ht1 : tys[t1]? = some (c1, .int))
    {sp dp n : Nat} (h4 : sp + n ≤ n0) (h5 : dp + n ≤ n1) (h6 : n0 < 2147483648) (h7 : n1 < 2147483648)
    (hframes : 1 ≤ R.frames) (hlocals : (rest.map fun v => v.category).sum + (nativeFrameWords "java/lang/System" "arraycopy" 5 + 11) ≤ R.locals) (hdg : decode cc pc = .ok (.invokestatic index, 3))
    (kk : ∀ (H1 : Heap) (locs1 : List Loc), va_P D cl (ws.set q1 (a, .inl (c1, n1, .inl (ai (ncpy f g sp dp n))))) H1 → va_D A (ws.set q1 (a, .inl (c1, n1, .inl (ai (ncpy f g sp dp n))))) → va_S A s.heap H1 locs1 → W p l e R s m args below meth c H1 locs1 cells slots Q (F0 m (pc + 3) ls rest)) : W p l e R s m args below meth c H locs cells slots Q (F0 m pc ls (.int (nI n) :: .int (nI dp) :: .ref a :: .int (nI sp) :: .ref a0 :: rest)) :=
  va_copyi hx hb hml hown hlink hnat hstat hini hK hP hD hS q0 q1 t0 t1 ha0 ha1 ht0 ht1 rfl (nI_pos (by omega)) (nI_pos (by omega)) (nI_pos (by omega)) (by rw [nI_clamp (by omega), nI_clamp (by omega)]; exact h4) (by rw [nI_clamp (by omega), nI_clamp (by omega)]; exact h5) (fun i _ => rfl) hframes hlocals hdg
    (fun H1 locs1 g1 g2 g3 => by rw [nI_clamp (show sp < 2 ^ 31 by omega), nI_clamp (show dp < 2 ^ 31 by omega), nI_clamp (show n < 2 ^ 31 by omega), ai_cpy] at g1 g2; exact kk H1 locs1 g1 g2 g3)
end WK2
/-- the two tables of the program, as lists of numbers -/
def RtL : List Nat := [128, 176, 208, 240, 128, 167, 197, 227, 128, 158, 187, 216, 123, 150, 178, 205, 116, 142, 169, 195, 111, 135, 160, 185, 105, 128, 152, 175, 100, 122, 144, 166, 95, 116, 137, 158, 90, 110, 130, 150, 85, 104, 123, 142, 81, 99, 117, 135, 77, 94, 111, 128, 73, 89, 105, 122, 69, 85, 100, 116, 66, 80, 95, 110, 62, 76, 90, 104, 59, 72, 86, 99, 56, 69, 81, 94, 53, 65, 77, 89, 51, 62, 73, 85, 48, 59, 69, 80, 46, 56, 66, 76, 43, 53, 63, 72, 41, 50, 59, 69, 39, 48, 56, 65, 37, 45, 54, 62, 35, 43, 51, 59, 33, 41, 48, 56, 32, 39, 46, 53, 30, 37, 43, 50, 29, 35, 41, 48, 27, 33, 39, 45, 26, 31, 37, 43, 24, 30, 35, 41, 23, 28, 33, 39, 22, 27, 32, 37, 21, 26, 30, 35, 20, 24, 29, 33, 19, 23, 27, 31, 18, 22, 26, 30, 17, 21, 25, 28, 16, 20, 23, 27, 15, 19, 22, 25, 14, 18, 21, 24, 14, 17, 20, 23, 13, 16, 19, 22, 12, 15, 18, 21, 12, 14, 17, 20, 11, 14, 16, 19, 11, 13, 15, 18, 10, 12, 15, 17, 10, 12, 14, 16, 9, 11, 13, 15, 9, 11, 12, 14, 8, 10, 12, 14, 8, 9, 11, 13, 7, 9, 11, 12, 7, 9, 10, 12, 7, 8, 10, 11, 6, 8, 9, 11, 6, 7, 9, 10, 6, 7, 8, 9]
def TtL : List Nat := [0, 0, 1, 2, 2, 4, 4, 5, 6, 7, 8, 9, 9, 11, 11, 12, 13, 13, 15, 15, 16, 16, 18, 18, 19, 19, 21, 21, 22, 22, 23, 24, 24, 25, 26, 26, 27, 27, 28, 29, 29, 30, 30, 30, 31, 32, 32, 33, 33, 33, 34, 34, 35, 35, 35, 36, 36, 36, 37, 37, 37, 38, 38]
def Rt (j : Nat) : Nat := RtL.getD j 0
def Tt (j : Nat) : Nat := TtL.getD j 0
theorem Rt_in : ∀ s, s < 63 → ∀ q, q < 4 → 6 ≤ Rt (4 * s + q) ∧ Rt (4 * s + q) + 128 ≤ 256 + 64 * q ∧ Rt (4 * s + q) ≤ 240 := by decide +kernel
theorem Tt_in : ∀ s, s < 63 → Tt s < 63 := by decide +kernel
/-- the addresses of the tables R and T, and of the texts (by their places) -/
abbrev EP : Type := Nat × Nat × (Nat → Nat)
def evT (ep : EP) (A : Nat → Prop) (U : State) (H : Heap) : Prop :=
  va_Z "BinStreams" "R" "[I" (.ref ep.1) A U H ∧ va_T .int ep.1 252 (fun j => .int (nI (Rt j))) A U H ∧ va_Z "BinStreams" "T" "[I" (.ref ep.2.1) A U H ∧ va_T .int ep.2.1 63 (fun j => .int (nI (Tt j))) A U H
def evN (U : State) : Prop :=
  va_Nw (.fieldLinkNest "BinStreams$Contexts" 24 "BinStreams" "R" "[I" "BinStreams") U ∧ va_Nw (.fieldLinkNest "BinStreams$Contexts" 33 "BinStreams" "T" "[I" "BinStreams") U ∧ va_Nw (.methodLinkNest RX1 74 yX3_contextOfCount "BinStreams") U ∧ va_Nw (.methodLinkNest RX2 82 yX3_contextOfCount "BinStreams") U
def ev (ep : EP) (A : Nat → Prop) (U : State) (H : Heap) : Prop := evT ep A U H ∧ evN U
def evo (o : Option EP) (A : Nat → Prop) (U : State) (H : Heap) : Prop := match o with
  | none => True
  | some ep => ev ep A U H
theorem evT.moved {ep : EP} {A : Nat → Prop} {u U : State} {H : Heap} (hvm : u.vm.Alike U.vm) (h : evT ep A u H) : evT ep A U H := ⟨va_Z.moved hvm h.1, va_T.moved hvm h.2.1, va_Z.moved hvm h.2.2.1, va_T.moved hvm h.2.2.2⟩
theorem evT.kept {ep : EP} {A : Nat → Prop} {U : State} {H H1 : Heap} (h : evT ep A U H) (hq : ∀ a : Nat, a < H.size → ¬ A a → H1[a]? = H[a]?) : evT ep A U H1 := ⟨va_Z.kept h.1 hq, va_T.kept h.2.1 hq, va_Z.kept h.2.2.1 hq, va_T.kept h.2.2.2 hq⟩
theorem evT.narrow {ep : EP} {A B : Nat → Prop} {U : State} {H : Heap} (h : evT ep A U H) (hAB : ∀ q, B q → A q) : evT ep B U H := ⟨va_Z.narrow h.1 hAB, va_T.narrow h.2.1 hAB, va_Z.narrow h.2.2.1 hAB, va_T.narrow h.2.2.2 hAB⟩
theorem evN.warm {s U : State} (hW : s.WarmedH U.vm) (h : evN s) : evN U := ⟨va_Nw.warmF hW h.1, va_Nw.warmF hW h.2.1, va_Nw.warmM hW h.2.2.1, va_Nw.warmM hW h.2.2.2⟩
theorem evN.same {s U : State} (hv : s.vm = U.vm) (h : evN s) : evN U := ⟨va_Nw.same rfl hv h.1, va_Nw.same rfl hv h.2.1, va_Nw.same rfl hv h.2.2.1, va_Nw.same rfl hv h.2.2.2⟩
theorem evo_none {A : Nat → Prop} {H : Heap} {s : State} : ∀ U : State, U.heap = H → s.WarmedH U.vm → evo none A U U.heap := fun _ _ _ => trivial
theorem evo_to {ep : EP} {A B : Nat → Prop} {s : State} {H : Heap} {locs : List Loc} (h : evo (some ep) A s s.heap) (hS : va_S A s.heap H locs) (hF : ∀ q, B q → A q) : ∀ U : State, U.heap = H → s.WarmedH U.vm → evo (some ep) B U U.heap := fun U hU hW => ⟨((h.1.kept (H1 := U.heap) (fun a h1 h2 => by rw [hU]; exact hS.2.1 a h1 h2)).narrow hF).moved hW.alike, h.2.warm hW⟩
abbrev kP (D : va_G) (o : Option EP) (av : List Value) (tys : List (ClassId × FieldType)) (ws : va_W) (sz : Nat) : Array Value → State → Prop := va_Pc av (fun U => U.heap.size = sz ∧ va_P D vwCl ws U.heap ∧ va_K D vwCl tys U ∧ va_D (fun _ => True) ws ∧ evo o (va_A ws sz) U U.heap)
abbrev kB (D : va_G) (tys : List (ClassId × FieldType)) (A : Nat → Prop) (ws : va_W) (t : State) : Prop := va_P D vwCl ws t.heap ∧ va_K D vwCl tys t ∧ va_D A ws
theorem kP_blind {D : va_G} {o : Option EP} {av : List Value} {tys : List (ClassId × FieldType)} {ws : va_W} {sz : Nat} : FrameBlind (kP D o av tys ws sz) := fun a U g mk q => by
  obtain ⟨q0, q1, qP, qK, qD, qE⟩ := q
  refine ⟨q0, q1, qP, va_K.moved (u := U) (U := U.calling g mk a) (Vm.Alike.refl U.vm) qK, qD, ?_⟩
  cases o with
  | none => exact trivial
  | some ep => exact ⟨evT.moved (u := U) (U := U.calling g mk a) (Vm.Alike.refl U.vm) qE.1, evN.same (s := U) (U := U.calling g mk a) rfl qE.2⟩
theorem kP_pre {D : va_G} {o : Option EP} {av : List Value} {tys : List (ClassId × FieldType)} {wc : va_W} {s : State} {H : Heap} {A : Nat → Prop} (hPc : va_P D vwCl wc H) (hK : va_K D vwCl tys s) (hDc : va_D A wc) (hE : ∀ U : State, U.heap = H → s.WarmedH U.vm → evo o (va_A wc H.size) U U.heap) : ∀ U : State, U.heap = H → s.WarmedH U.vm → kP D o av tys wc H.size av.toArray U := fun U hU hW => ⟨rfl, by rw [hU], by rw [hU]; exact hPc, va_K.moved hW.alike hK, hDc.weaken (fun _ _ _ _ => trivial), hE U hU hW⟩
