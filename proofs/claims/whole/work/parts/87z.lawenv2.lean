theorem lw_strs {s : State} {b : Nat} (hts : ∀ w ∈ lw_tbl, w.before #[Value.ref b] s = true) (hs : ∀ c ∈ flatC (Jvm.Cond.and given_1 narrow_1), c.before #[Value.ref b] s = true) : ∃ f : Nat → Nat, ∀ q ∈ strL, vk_R RX3 q.1 q.2 (f q.1) s := by
  obtain ⟨a114, -, -, -, h114, -⟩ := Cond.exactly_spec (hs _ ne_114)
  obtain ⟨a118, -, -, -, h118, -⟩ := Cond.exactly_spec (hs _ ne_118)
  obtain ⟨a169, -, -, -, h169, -⟩ := Cond.exactly_spec (hs _ ne_169)
  obtain ⟨a173, -, -, -, h173, -⟩ := Cond.exactly_spec (hs _ ne_173)
  obtain ⟨a176, -, -, -, h176, -⟩ := Cond.exactly_spec (hs _ ne_176)
  obtain ⟨a178, -, -, -, h178, -⟩ := Cond.exactly_spec (hs _ ne_178)
  obtain ⟨a180, -, -, -, h180, -⟩ := Cond.exactly_spec (hs _ ne_180)
  obtain ⟨a184, -, -, -, h184, -⟩ := Cond.exactly_spec (hs _ ne_184)
  obtain ⟨a186, -, -, -, h186, -⟩ := Cond.exactly_spec (hs _ ne_186)
  obtain ⟨a192, -, -, -, h192, -⟩ := Cond.exactly_spec (hs _ ne_192)
  obtain ⟨a194, -, -, -, h194, -⟩ := Cond.exactly_spec (hs _ ne_194)
  obtain ⟨a196, -, -, -, h196, -⟩ := Cond.exactly_spec (hs _ ne_196)
  obtain ⟨a201, -, -, -, h201, -⟩ := Cond.exactly_spec (hs _ ne_201)
  obtain ⟨a36, -, -, -, h36, -⟩ := Cond.exactly_spec (hs _ ne_36)
  obtain ⟨a89, -, -, -, h89, -⟩ := Cond.exactly_spec (hs _ ne_89)
  refine ⟨fun k => if k = 114 then a114 else if k = 118 then a118 else if k = 169 then a169 else if k = 173 then a173 else if k = 176 then a176 else if k = 178 then a178 else if k = 180 then a180 else if k = 184 then a184 else if k = 186 then a186 else if k = 192 then a192 else if k = 194 then a194 else if k = 196 then a196 else if k = 201 then a201 else if k = 36 then a36 else if k = 89 then a89 else 0, ?_⟩
  intro q hq
  simp only [strL, List.mem_cons, List.not_mem_nil, or_false] at hq
  rcases hq with rfl | rfl | rfl | rfl | rfl | rfl | rfl | rfl | rfl | rfl | rfl | rfl | rfl | rfl | rfl
  · exact (show vk_R RX3 114 "no byte" a114 s from vk_R.of (hts _ ns_114) h114)
  · exact (show vk_R RX3 118 "no bytes" a118 s from vk_R.of (hts _ ns_118) h118)
  · exact (show vk_R RX3 169 "no such part" a169 s from vk_R.of (hts _ ns_169) h169)
  · exact (show vk_R RX3 173 "no such context" a173 s from vk_R.of (hts _ ns_173) h173)
  · exact (show vk_R RX3 176 "no such contexts for a count" a176 s from vk_R.of (hts _ ns_176) h176)
  · exact (show vk_R RX3 178 "no bin" a178 s from vk_R.of (hts _ ns_178) h178)
  · exact (show vk_R RX3 180 "no such order" a180 s from vk_R.of (hts _ ns_180) h180)
  · exact (show vk_R RX3 184 "no such number" a184 s from vk_R.of (hts _ ns_184) h184)
  · exact (show vk_R RX3 186 "no such most" a186 s from vk_R.of (hts _ ns_186) h186)
  · exact (show vk_R RX3 192 "the writer has not started, or has ended" a192 s from vk_R.of (hts _ ns_192) h192)
  · exact (show vk_R RX3 194 "no room for more bins" a194 s from vk_R.of (hts _ ns_194) h194)
  · exact (show vk_R RX3 196 "no such byte" a196 s from vk_R.of (hts _ ns_196) h196)
  · exact (show vk_R RX3 201 "nothing is loaded, or the reader reads no more" a201 s from vk_R.of (hts _ ns_201) h201)
  · exact (show vk_R RX3 36 "no such state" a36 s from vk_R.of (hts _ ns_36) h36)
  · exact (show vk_R RX3 89 "no such count" a89 s from vk_R.of (hts _ ns_89) h89)
theorem lw_env {s : State} {b : Nat} {A : Nat → Prop} (hts : ∀ w ∈ lw_tbl, w.before #[Value.ref b] s = true) (hgv : (Jvm.Cond.and given_1 narrow_1).before #[Value.ref b] s = true) (hAn : ∀ a : Nat, a < s.heap.size → ¬ A a) : ∃ ep : EP, evo (some ep) A s s.heap ∧ evX ep A s s.heap ∧ evK s := by
  have hs := flat_of_before _ hgv
  obtain ⟨tR, hvR, hTR⟩ := va_Tof (tm := .static "BinStreams" "R" "[I") (ty := .int) (N := 252) (f := fun j => .int (nI (Rt j))) (A := A) (by decide) (hs _ nn_7) (va_eqt (hs _ nn_8)) (fun j hj => va_eqt (hs _ (nm_R j hj))) hAn
  obtain ⟨tT, hvT, hTT⟩ := va_Tof (tm := .static "BinStreams" "T" "[I") (ty := .int) (N := 63) (f := fun j => .int (nI (Tt j))) (A := A) (by decide) (hs _ nn_262) (va_eqt (hs _ nn_263)) (fun j hj => va_eqt (hs _ (nm_T j hj))) hAn
  obtain ⟨f, hf⟩ := lw_strs hts hs
  refine ⟨(tR, tT, f), ⟨⟨va_Zof (hts _ nw_0) (hts _ nw_2) hvR hAn, hTR, va_Zof (hts _ nw_1) (hts _ nw_2) hvT hAn, hTT⟩, va_Nw.of rfl (hts _ nw_3), va_Nw.of rfl (hts _ nw_4), va_Nw.of rfl (hts _ nw_5), va_Nw.of rfl (hts _ nw_6)⟩, ⟨vx_Zqof (hts _ nw_7) (hts _ nw_9) (hs _ nn_4) hAn, vx_Zqof (hts _ nw_8) (hts _ nw_9) (hs _ nn_5) hAn, hf, va_Nw.of rfl (hts _ nw_10), va_Nw.of rfl (hts _ nw_11), va_Nw.of rfl (hts _ nw_12), va_Nw.of rfl (hts _ nw_13), va_Nw.of rfl (hts _ nw_14), va_Nw.of rfl (hts _ nw_15), va_Nc.of (hs _ nn_a), va_Nc.of (hs _ nn_b), va_Nc.of (hs _ nn_c)⟩, va_Nw.of rfl (hts _ nw_16), va_Nw.of rfl (hts _ nw_17), va_Nw.of rfl (hts _ nw_18), va_Nw.of rfl (hts _ nw_19), va_Nw.of rfl (hts _ nw_20)⟩
theorem iw_whole_start_0 : ∀ w ∈ u_ws RX0 TX0 2, w ∈ wsL_law := fun w h => inlX0 w h
theorem iw_whole_start_1 : ∀ w ∈ u_ws RX1 TX1 7, w ∈ wsL_law := fun w h => inlX1 w h
theorem iw_whole_start_2 : ∀ w ∈ u_ws RX2 TX2 11, w ∈ wsL_law := fun w h => inlX2 w h
theorem iw_whole_start_3 : ∀ w ∈ u_ws RX3 TX3 3, w ∈ wsL_law := fun w h => inlX3 w h
theorem iw_whole_start_4 : ∀ w ∈ u_ws RX4 TX4 21, w ∈ wsL_law := fun w h => inlX4 w h
theorem lw_known {s : State} {args : Array Value} (hts : ∀ w ∈ wsL_law, w.before args s = true) : ∃ (D : va_G) (cI : ClassId), va_K D vwCl [(cI, .int)] s := by
  obtain ⟨c0, i0, h0⟩ := u_known (C := RX0) (T := TX0) (N := 2) (n := 2) hts iw_whole_start_0 (hts (.instantiable RX0 2) (by decide +kernel))
  obtain ⟨c1, i1, h1⟩ := u_known (C := RX1) (T := TX1) (N := 7) (n := 7) hts iw_whole_start_1 (hts (.instantiable RX1 7) (by decide +kernel))
  obtain ⟨c2, i2, h2⟩ := u_known (C := RX2) (T := TX2) (N := 11) (n := 11) hts iw_whole_start_2 (hts (.instantiable RX2 11) (by decide +kernel))
  obtain ⟨c3, i3, h3⟩ := u_known (C := RX3) (T := TX3) (N := 3) (n := 3) hts iw_whole_start_3 (hts (.instantiable RX3 3) (by decide +kernel))
  obtain ⟨c4, i4, h4⟩ := u_known (C := RX4) (T := TX4) (N := 21) (n := 21) hts iw_whole_start_4 (hts (.instantiable RX4 21) (by decide +kernel))
  obtain ⟨cI, hI1, hI2⟩ := lw_arr (hts (.arrayClass .int) (by decide +kernel))
  refine ⟨(fun k => if k = 0 then c0 else if k = 1 then c1 else if k = 2 then c2 else if k = 3 then c3 else c4, fun k => if k = 0 then i0 else if k = 1 then i1 else if k = 2 then i2 else if k = 3 then i3 else i4), cI, ?_, ?_⟩
  · intro k q hq
    match k, hq with
    | 0, hq => cases hq; exact h0
    | 1, hq => cases hq; exact h1
    | 2, hq => cases hq; exact h2
    | 3, hq => cases hq; exact h3
    | 4, hq => cases hq; exact h4
    | k + 5, hq => simp [vwCl] at hq
  · intro k q hq
    match k, hq with
    | 0, hq => cases hq; exact ⟨hI1, hI2⟩
    | k + 1, hq => simp at hq
