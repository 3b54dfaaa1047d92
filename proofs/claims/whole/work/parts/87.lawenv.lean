set_option maxRecDepth 1000000 in
theorem nw_0 : (Cond.laysStatic "BinStreams" "R" "[I" : Cond) ∈ lw_tbl := List.mem_of_getElem? (i := 326) rfl
set_option maxRecDepth 1000000 in
theorem nw_1 : (Cond.laysStatic "BinStreams" "T" "[I" : Cond) ∈ lw_tbl := List.mem_of_getElem? (i := 335) rfl
set_option maxRecDepth 1000000 in
theorem nw_2 : (Cond.initialized "BinStreams" : Cond) ∈ lw_tbl := List.mem_of_getElem? (i := 27) rfl
set_option maxRecDepth 1000000 in
theorem nw_3 : (Cond.fieldLinkNest "BinStreams$Contexts" 24 "BinStreams" "R" "[I" "BinStreams" : Cond) ∈ lw_tbl := List.mem_of_getElem? (i := 325) rfl
set_option maxRecDepth 1000000 in
theorem nw_4 : (Cond.fieldLinkNest "BinStreams$Contexts" 33 "BinStreams" "T" "[I" "BinStreams" : Cond) ∈ lw_tbl := List.mem_of_getElem? (i := 334) rfl
set_option maxRecDepth 1000000 in
theorem nw_5 : (Cond.methodLinkNest RX1 74 yX3_contextOfCount "BinStreams" : Cond) ∈ lw_tbl := List.mem_of_getElem? (i := 546) rfl
set_option maxRecDepth 1000000 in
theorem nw_6 : (Cond.methodLinkNest RX2 82 yX3_contextOfCount "BinStreams" : Cond) ∈ lw_tbl := List.mem_of_getElem? (i := 411) rfl
set_option maxRecDepth 1000000 in
theorem nw_7 : (Cond.laysStatic Bundle.tN "UNASSIGNED_STACK" Bundle.steD : Cond) ∈ lw_tbl := List.mem_of_getElem? (i := 223) rfl
set_option maxRecDepth 1000000 in
theorem nw_8 : (Cond.laysStatic Bundle.tN "SUPPRESSED_SENTINEL" Bundle.listD : Cond) ∈ lw_tbl := List.mem_of_getElem? (i := 225) rfl
set_option maxRecDepth 1000000 in
theorem nw_9 : (Cond.initialized Bundle.tN : Cond) ∈ lw_tbl := List.mem_of_getElem? (i := 32) rfl
set_option maxRecDepth 1000000 in
theorem nw_10 : (Cond.castable xIO xIO : Cond) ∈ lw_tbl := List.mem_of_getElem? (i := 198) rfl
set_option maxRecDepth 1000000 in
theorem nw_11 : (Cond.castable xIA xIA : Cond) ∈ lw_tbl := List.mem_of_getElem? (i := 266) rfl
set_option maxRecDepth 1000000 in
theorem nw_12 : (Cond.castable xIS xIS : Cond) ∈ lw_tbl := List.mem_of_getElem? (i := 302) rfl
set_option maxRecDepth 1000000 in
theorem nw_13 : (Cond.declares (Bundle.initS "java/lang/RuntimeException") : Cond) ∈ lw_tbl := List.mem_of_getElem? (i := 200) rfl
set_option maxRecDepth 1000000 in
theorem nw_14 : (Cond.declares (Bundle.initS "java/lang/Exception") : Cond) ∈ lw_tbl := List.mem_of_getElem? (i := 202) rfl
set_option maxRecDepth 1000000 in
theorem nw_15 : (Cond.declares (Bundle.initS "java/lang/Throwable") : Cond) ∈ lw_tbl := List.mem_of_getElem? (i := 204) rfl
set_option maxRecDepth 1000000 in
theorem nw_16 : (Cond.methodLinkNest RX3 9 yX0_init "BinStreams" : Cond) ∈ lw_tbl := List.mem_of_getElem? (i := 51) rfl
set_option maxRecDepth 1000000 in
theorem nw_17 : (Cond.methodLinkNest RX3 18 yX2_init "BinStreams" : Cond) ∈ lw_tbl := List.mem_of_getElem? (i := 69) rfl
set_option maxRecDepth 1000000 in
theorem nw_18 : (Cond.methodLinkNest RX3 25 yX1_init "BinStreams" : Cond) ∈ lw_tbl := List.mem_of_getElem? (i := 120) rfl
set_option maxRecDepth 1000000 in
theorem nw_19 : (Cond.methodLinkNest RX1 11 yX0_init "BinStreams" : Cond) ∈ lw_tbl := List.mem_of_getElem? (i := 125) rfl
set_option maxRecDepth 1000000 in
theorem nw_20 : (Cond.methodLinkNest RX2 11 yX0_init "BinStreams" : Cond) ∈ lw_tbl := List.mem_of_getElem? (i := 74) rfl
set_option maxRecDepth 1000000 in
theorem ns_114 : Cond.stringRef RX3 114 "no byte" ∈ lw_tbl := List.mem_of_getElem? (i := 457) rfl
theorem ne_114 : Cond.exactly (.string RX3 114) "java/lang/String" ∈ flatC (Jvm.Cond.and given_1 narrow_1) := List.mem_of_getElem? (i := 634) (by decide +kernel)
set_option maxRecDepth 1000000 in
theorem ns_118 : Cond.stringRef RX3 118 "no bytes" ∈ lw_tbl := List.mem_of_getElem? (i := 465) rfl
theorem ne_118 : Cond.exactly (.string RX3 118) "java/lang/String" ∈ flatC (Jvm.Cond.and given_1 narrow_1) := List.mem_of_getElem? (i := 656) (by decide +kernel)
set_option maxRecDepth 1000000 in
theorem ns_169 : Cond.stringRef RX3 169 "no such part" ∈ lw_tbl := List.mem_of_getElem? (i := 573) rfl
theorem ne_169 : Cond.exactly (.string RX3 169) "java/lang/String" ∈ flatC (Jvm.Cond.and given_1 narrow_1) := List.mem_of_getElem? (i := 743) (by decide +kernel)
set_option maxRecDepth 1000000 in
theorem ns_173 : Cond.stringRef RX3 173 "no such context" ∈ lw_tbl := List.mem_of_getElem? (i := 237) rfl
theorem ne_173 : Cond.exactly (.string RX3 173) "java/lang/String" ∈ flatC (Jvm.Cond.and given_1 narrow_1) := List.mem_of_getElem? (i := 348) (by decide +kernel)
set_option maxRecDepth 1000000 in
theorem ns_176 : Cond.stringRef RX3 176 "no such contexts for a count" ∈ lw_tbl := List.mem_of_getElem? (i := 401) rfl
theorem ne_176 : Cond.exactly (.string RX3 176) "java/lang/String" ∈ flatC (Jvm.Cond.and given_1 narrow_1) := List.mem_of_getElem? (i := 519) (by decide +kernel)
set_option maxRecDepth 1000000 in
theorem ns_178 : Cond.stringRef RX3 178 "no bin" ∈ lw_tbl := List.mem_of_getElem? (i := 283) rfl
theorem ne_178 : Cond.exactly (.string RX3 178) "java/lang/String" ∈ flatC (Jvm.Cond.and given_1 narrow_1) := List.mem_of_getElem? (i := 385) (by decide +kernel)
set_option maxRecDepth 1000000 in
theorem ns_180 : Cond.stringRef RX3 180 "no such order" ∈ lw_tbl := List.mem_of_getElem? (i := 373) rfl
theorem ne_180 : Cond.exactly (.string RX3 180) "java/lang/String" ∈ flatC (Jvm.Cond.and given_1 narrow_1) := List.mem_of_getElem? (i := 473) (by decide +kernel)
set_option maxRecDepth 1000000 in
theorem ns_184 : Cond.stringRef RX3 184 "no such number" ∈ lw_tbl := List.mem_of_getElem? (i := 379) rfl
theorem ne_184 : Cond.exactly (.string RX3 184) "java/lang/String" ∈ flatC (Jvm.Cond.and given_1 narrow_1) := List.mem_of_getElem? (i := 495) (by decide +kernel)
set_option maxRecDepth 1000000 in
theorem ns_186 : Cond.stringRef RX3 186 "no such most" ∈ lw_tbl := List.mem_of_getElem? (i := 405) rfl
theorem ne_186 : Cond.exactly (.string RX3 186) "java/lang/String" ∈ flatC (Jvm.Cond.and given_1 narrow_1) := List.mem_of_getElem? (i := 558) (by decide +kernel)
set_option maxRecDepth 1000000 in
theorem ns_192 : Cond.stringRef RX3 192 "the writer has not started, or has ended" ∈ lw_tbl := List.mem_of_getElem? (i := 309) rfl
theorem ne_192 : Cond.exactly (.string RX3 192) "java/lang/String" ∈ flatC (Jvm.Cond.and given_1 narrow_1) := List.mem_of_getElem? (i := 397) (by decide +kernel)
set_option maxRecDepth 1000000 in
theorem ns_194 : Cond.stringRef RX3 194 "no room for more bins" ∈ lw_tbl := List.mem_of_getElem? (i := 316) rfl
theorem ne_194 : Cond.exactly (.string RX3 194) "java/lang/String" ∈ flatC (Jvm.Cond.and given_1 narrow_1) := List.mem_of_getElem? (i := 444) (by decide +kernel)
set_option maxRecDepth 1000000 in
theorem ns_196 : Cond.stringRef RX3 196 "no such byte" ∈ lw_tbl := List.mem_of_getElem? (i := 449) rfl
theorem ne_196 : Cond.exactly (.string RX3 196) "java/lang/String" ∈ flatC (Jvm.Cond.and given_1 narrow_1) := List.mem_of_getElem? (i := 608) (by decide +kernel)
set_option maxRecDepth 1000000 in
theorem ns_201 : Cond.stringRef RX3 201 "nothing is loaded, or the reader reads no more" ∈ lw_tbl := List.mem_of_getElem? (i := 491) rfl
theorem ne_201 : Cond.exactly (.string RX3 201) "java/lang/String" ∈ flatC (Jvm.Cond.and given_1 narrow_1) := List.mem_of_getElem? (i := 680) (by decide +kernel)
set_option maxRecDepth 1000000 in
theorem ns_36 : Cond.stringRef RX3 36 "no such state" ∈ lw_tbl := List.mem_of_getElem? (i := 273) rfl
theorem ne_36 : Cond.exactly (.string RX3 36) "java/lang/String" ∈ flatC (Jvm.Cond.and given_1 narrow_1) := List.mem_of_getElem? (i := 367) (by decide +kernel)
set_option maxRecDepth 1000000 in
theorem ns_89 : Cond.stringRef RX3 89 "no such count" ∈ lw_tbl := List.mem_of_getElem? (i := 406) rfl
theorem ne_89 : Cond.exactly (.string RX3 89) "java/lang/String" ∈ flatC (Jvm.Cond.and given_1 narrow_1) := List.mem_of_getElem? (i := 582) (by decide +kernel)
theorem nn_4 : Cond.isRef (.static Bundle.tN "UNASSIGNED_STACK" Bundle.steD) ∈ flatC (Jvm.Cond.and given_1 narrow_1) := List.mem_of_getElem? (i := 4) (by decide +kernel)
theorem nn_5 : Cond.isRef (.static Bundle.tN "SUPPRESSED_SENTINEL" Bundle.listD) ∈ flatC (Jvm.Cond.and given_1 narrow_1) := List.mem_of_getElem? (i := 5) (by decide +kernel)
theorem nn_7 : Cond.arrayOf (.static "BinStreams" "R" "[I") .int ∈ flatC (Jvm.Cond.and given_1 narrow_1) := List.mem_of_getElem? (i := 7) (by decide +kernel)
theorem nn_8 : Cond.eq (.length (.static "BinStreams" "R" "[I")) (.int 252) ∈ flatC (Jvm.Cond.and given_1 narrow_1) := List.mem_of_getElem? (i := 8) (by decide +kernel)
theorem nn_262 : Cond.arrayOf (.static "BinStreams" "T" "[I") .int ∈ flatC (Jvm.Cond.and given_1 narrow_1) := List.mem_of_getElem? (i := 262) (by decide +kernel)
theorem nn_263 : Cond.eq (.length (.static "BinStreams" "T" "[I")) (.int 63) ∈ flatC (Jvm.Cond.and given_1 narrow_1) := List.mem_of_getElem? (i := 263) (by decide +kernel)
theorem nn_a : Cond.not (.castable xIA xIO) ∈ flatC (Jvm.Cond.and given_1 narrow_1) := List.mem_of_getElem? (i := 332) (by decide +kernel)
theorem nn_b : Cond.not (.castable xIS xIO) ∈ flatC (Jvm.Cond.and given_1 narrow_1) := List.mem_of_getElem? (i := 333) (by decide +kernel)
theorem nn_c : Cond.not (.castable xIS xIA) ∈ flatC (Jvm.Cond.and given_1 narrow_1) := List.mem_of_getElem? (i := 340) (by decide +kernel)
theorem nr_R : ((flatC (Jvm.Cond.and given_1 narrow_1)).drop 9).take 252 = (List.range 252).map (fun j => Cond.eq (.elem (.static "BinStreams" "R" "[I") (.int (Int32.ofNat j))) (.int (Int32.ofNat (Rt j)))) := by decide +kernel
theorem nm_R (j : Nat) (hj : j < 252) : Cond.eq (.elem (.static "BinStreams" "R" "[I") (.int (Int32.ofNat j))) (.int (Int32.ofNat (Rt j))) ∈ flatC (Jvm.Cond.and given_1 narrow_1) := by
  have h : (fun j => Cond.eq (.elem (.static "BinStreams" "R" "[I") (.int (Int32.ofNat j))) (.int (Int32.ofNat (Rt j)))) j ∈ (List.range 252).map (fun j => Cond.eq (.elem (.static "BinStreams" "R" "[I") (.int (Int32.ofNat j))) (.int (Int32.ofNat (Rt j)))) := List.mem_map.mpr ⟨j, List.mem_range.mpr hj, rfl⟩
  rw [← nr_R] at h
  exact List.mem_of_mem_drop (List.mem_of_mem_take h)
theorem nr_T : ((flatC (Jvm.Cond.and given_1 narrow_1)).drop 264).take 63 = (List.range 63).map (fun j => Cond.eq (.elem (.static "BinStreams" "T" "[I") (.int (Int32.ofNat j))) (.int (Int32.ofNat (Tt j)))) := by decide +kernel
theorem nm_T (j : Nat) (hj : j < 63) : Cond.eq (.elem (.static "BinStreams" "T" "[I") (.int (Int32.ofNat j))) (.int (Int32.ofNat (Tt j))) ∈ flatC (Jvm.Cond.and given_1 narrow_1) := by
  have h : (fun j => Cond.eq (.elem (.static "BinStreams" "T" "[I") (.int (Int32.ofNat j))) (.int (Int32.ofNat (Tt j)))) j ∈ (List.range 63).map (fun j => Cond.eq (.elem (.static "BinStreams" "T" "[I") (.int (Int32.ofNat j))) (.int (Int32.ofNat (Tt j)))) := List.mem_map.mpr ⟨j, List.mem_range.mpr hj, rfl⟩
  rw [← nr_T] at h
  exact List.mem_of_mem_drop (List.mem_of_mem_take h)
