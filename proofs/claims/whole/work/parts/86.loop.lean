set_option maxHeartbeats 4000000 in
set_option maxRecDepth 100000 in
/-- the law's loop -/
theorem law_loop {p : Program} {l : Launch} {e : Env} {s : State} {m : MethodId} {below : List Frame} {meth : Method} {c : Code} {b LL : Nat} {xs : Nat → Int32} (hlt : l.stackTraces = false) (hL : LL ≤ 2048) (C0 : lw_At p s m meth c b LL xs) {A : Nat → Prop} (hA : ∀ q : Nat, s.heap.size ≤ q → A q) (hAH : ∀ q : Nat, A q → s.heap.size ≤ q) (hbA : ¬ A b) {D : va_G} {cI cJ : ClassId} {ep : EP} (hK : va_K D vwCl [(cI, .int), (cJ, .long)] s) (hev : evo (some ep) A s s.heap) (hevx : evX ep A s s.heap) {x st wr rd ss sl wc cs cl wb rc rcs rcl rb mo pa fa ms ml md mc mp ou : Nat} : ∀ (n9 j : Nat), LL < 4 * j + 4 * n9 → 4 * j ≤ LL → law_at p l e s m below meth c b A D cI cJ x st wr rd ss sl wc cs cl wb rc rcs rcl rb mo pa fa ms ml md mc mp ou j 23 (23 + j) (4592 + 6 * j) := by
  intro n9
  induction n9 with
  | zero =>
    intro j h1 h2
    exact absurd h1 (by omega)
  | succ n9 ih =>
    intro j h1 h2
    have kont9 : 4 * (j + 1) ≤ LL → law_at p l e s m below meth c b A D cI cJ x st wr rd ss sl wc cs cl wb rc rcs rcl rb mo pa fa ms ml md mc mp ou (j + 1) 23 (23 + (j + 1)) (4592 + 6 * (j + 1)) := fun h3 => ih (j + 1) (by omega) h3
    obtain ⟨hx, hb, hr, hml, hown, hts, hX, hbl, hlocks, hgv⟩ := id C0
    intro bc rg lo wt sh bn wg bt hg pl has rw of rdg T G n k0 gr Sa La S L Bf Sr Lr Cf bs Dd Oc Cp fo hI H locs hP hD hS ls hl
    refine lv_iload hx hb dL_law_23 (lv_at hl 4 rfl) ?_
    refine lv_aload_n hx hb dL_law_25 rfl (lv_at hl 0 rfl) ?_
    refine va_slen hx hb hX hbl hbA hS dL_law_26 ?_
    refine lv_iconst (v := nI 4) hx hb dL_law_27 (by decide) ?_
    refine lv_isub hx hb dL_law_28 ?_
    rcases Nat.lt_or_ge LL (4 * j + 4) with hge | hge
    · refine lv_icmp_gt (tgt := 1144) hx hb dL_law_29 (by decide) (fun _ => ?_) (fun z => absurd (lw_gt hge h2 hL) z)
      refine lv_iconst (v := 1) hx hb dL_law_1144 (by decide) ?_
      refine va_forget (fun q hq => hAH q.base (hS.2.2 q hq)) ?_
      refine W.widen (k := 1062) (n := 12874) (by omega) (by omega) ?_
      exact lw_ret hx hb hr hlocks dL_law_1145
    · refine lv_icmp_gt (tgt := 1144) hx hb dL_law_29 (by decide) (fun z => absurd z (lw_ngt hge hL)) (fun _ => ?_)
      have kont := kont9 hge
      refine lv_aload_n hx hb dL_law_32 rfl (lv_at hl 0 rfl) ?_
      refine lv_iload hx hb dL_law_33 (lv_at hl 4 rfl) ?_
      refine lw_sld hx hb hX hbl hbA hS (show 4 * j < LL by omega) hL dL_law_35 ?_
      refine lv_bipush (v := nI 31) hx hb dL_law_36 (by decide) ?_
      refine lv_iand hx hb dL_law_38 ?_
      obtain ⟨k9, hk9, ek9⟩ := lw_and31 (xs (4 * j))
      refine wk_topI (b := k9) (by exact ek9) ?_
      rcases (show k9 = 0 ∨ k9 = 1 ∨ k9 = 2 ∨ k9 = 3 ∨ k9 = 4 ∨ k9 = 5 ∨ k9 = 6 ∨ k9 = 7 ∨ k9 = 8 ∨ k9 = 9 ∨ k9 = 10 ∨ k9 = 11 ∨ k9 = 12 ∨ k9 = 13 ∨ k9 = 14 ∨ k9 = 15 ∨ k9 = 16 ∨ k9 = 17 ∨ k9 = 18 ∨ 19 ≤ k9 by omega) with hk | hk | hk | hk | hk | hk | hk | hk | hk | hk | hk | hk | hk | hk | hk | hk | hk | hk | hk | hk
      · refine lv_tableIn (off := 89) (tgt := 128) hx hb dL_law_39 (by rw [hk]; decide) (by rw [hk]; decide) (by rw [hk]; rfl) (by decide) ?_
        exact law_0 hlt hL C0 hA hbA hK hev hevx hge kont bc rg lo wt sh bn wg bt hg pl has rw of rdg T G n k0 gr Sa La S L Bf Sr Lr Cf bs Dd Oc Cp fo hI H locs hP hD hS ls hl
      · refine lv_tableIn (off := 149) (tgt := 188) hx hb dL_law_39 (by rw [hk]; decide) (by rw [hk]; decide) (by rw [hk]; rfl) (by decide) ?_
        exact law_1 hlt hL C0 hA hbA hK hev hevx hge kont bc rg lo wt sh bn wg bt hg pl has rw of rdg T G n k0 gr Sa La S L Bf Sr Lr Cf bs Dd Oc Cp fo hI H locs hP hD hS ls hl
      · refine lv_tableIn (off := 160) (tgt := 199) hx hb dL_law_39 (by rw [hk]; decide) (by rw [hk]; decide) (by rw [hk]; rfl) (by decide) ?_
        exact law_2 hlt hL C0 hA hbA hK hev hevx hge kont bc rg lo wt sh bn wg bt hg pl has rw of rdg T G n k0 gr Sa La S L Bf Sr Lr Cf bs Dd Oc Cp fo hI H locs hP hD hS ls hl
      · refine lv_tableIn (off := 208) (tgt := 247) hx hb dL_law_39 (by rw [hk]; decide) (by rw [hk]; decide) (by rw [hk]; rfl) (by decide) ?_
        exact law_3 hlt hL C0 hA hbA hK hev hevx hge kont bc rg lo wt sh bn wg bt hg pl has rw of rdg T G n k0 gr Sa La S L Bf Sr Lr Cf bs Dd Oc Cp fo hI H locs hP hD hS ls hl
      · refine lv_tableIn (off := 244) (tgt := 283) hx hb dL_law_39 (by rw [hk]; decide) (by rw [hk]; decide) (by rw [hk]; rfl) (by decide) ?_
        exact law_4 hlt hL C0 hA hbA hK hev hevx hge kont bc rg lo wt sh bn wg bt hg pl has rw of rdg T G n k0 gr Sa La S L Bf Sr Lr Cf bs Dd Oc Cp fo hI H locs hP hD hS ls hl
      · refine lv_tableIn (off := 340) (tgt := 379) hx hb dL_law_39 (by rw [hk]; decide) (by rw [hk]; decide) (by rw [hk]; rfl) (by decide) ?_
        exact law_5 hlt hL C0 hA hbA hK hev hevx hge kont bc rg lo wt sh bn wg bt hg pl has rw of rdg T G n k0 gr Sa La S L Bf Sr Lr Cf bs Dd Oc Cp fo hI H locs hP hD hS ls hl
      · refine lv_tableIn (off := 420) (tgt := 459) hx hb dL_law_39 (by rw [hk]; decide) (by rw [hk]; decide) (by rw [hk]; rfl) (by decide) ?_
        exact law_6 hlt hL C0 hA hbA hK hev hevx hge kont bc rg lo wt sh bn wg bt hg pl has rw of rdg T G n k0 gr Sa La S L Bf Sr Lr Cf bs Dd Oc Cp fo hI H locs hP hD hS ls hl
      · refine lv_tableIn (off := 444) (tgt := 483) hx hb dL_law_39 (by rw [hk]; decide) (by rw [hk]; decide) (by rw [hk]; rfl) (by decide) ?_
        exact law_7 hlt hL C0 hA hbA hK hev hevx hge kont bc rg lo wt sh bn wg bt hg pl has rw of rdg T G n k0 gr Sa La S L Bf Sr Lr Cf bs Dd Oc Cp fo hI H locs hP hD hS ls hl
      · refine lv_tableIn (off := 488) (tgt := 527) hx hb dL_law_39 (by rw [hk]; decide) (by rw [hk]; decide) (by rw [hk]; rfl) (by decide) ?_
        exact law_8 hlt hL C0 hA hbA hK hev hevx hge kont bc rg lo wt sh bn wg bt hg pl has rw of rdg T G n k0 gr Sa La S L Bf Sr Lr Cf bs Dd Oc Cp fo hI H locs hP hD hS ls hl
      · refine lv_tableIn (off := 501) (tgt := 540) hx hb dL_law_39 (by rw [hk]; decide) (by rw [hk]; decide) (by rw [hk]; rfl) (by decide) ?_
        exact law_9 hlt hL C0 hA hbA hK hev hevx hge kont bc rg lo wt sh bn wg bt hg pl has rw of rdg T G n k0 gr Sa La S L Bf Sr Lr Cf bs Dd Oc Cp fo hI H locs hP hD hS ls hl
      · refine lv_tableIn (off := 557) (tgt := 596) hx hb dL_law_39 (by rw [hk]; decide) (by rw [hk]; decide) (by rw [hk]; rfl) (by decide) ?_
        exact law_10 hlt hL C0 hA hbA hK hev hevx hge kont bc rg lo wt sh bn wg bt hg pl has rw of rdg T G n k0 gr Sa La S L Bf Sr Lr Cf bs Dd Oc Cp fo hI H locs hP hD hS ls hl
      · refine lv_tableIn (off := 605) (tgt := 644) hx hb dL_law_39 (by rw [hk]; decide) (by rw [hk]; decide) (by rw [hk]; rfl) (by decide) ?_
        exact law_11 hlt hL C0 hA hbA hK hev hevx hge kont bc rg lo wt sh bn wg bt hg pl has rw of rdg T G n k0 gr Sa La S L Bf Sr Lr Cf bs Dd Oc Cp fo hI H locs hP hD hS ls hl
      · refine lv_tableIn (off := 656) (tgt := 695) hx hb dL_law_39 (by rw [hk]; decide) (by rw [hk]; decide) (by rw [hk]; rfl) (by decide) ?_
        exact law_12 hlt hL C0 hA hbA hK hev hevx hge kont bc rg lo wt sh bn wg bt hg pl has rw of rdg T G n k0 gr Sa La S L Bf Sr Lr Cf bs Dd Oc Cp fo hI H locs hP hD hS ls hl
      · refine lv_tableIn (off := 712) (tgt := 751) hx hb dL_law_39 (by rw [hk]; decide) (by rw [hk]; decide) (by rw [hk]; rfl) (by decide) ?_
        exact law_13 hlt hL C0 hA hbA hK hev hevx hge kont bc rg lo wt sh bn wg bt hg pl has rw of rdg T G n k0 gr Sa La S L Bf Sr Lr Cf bs Dd Oc Cp fo hI H locs hP hD hS ls hl
      · refine lv_tableIn (off := 756) (tgt := 795) hx hb dL_law_39 (by rw [hk]; decide) (by rw [hk]; decide) (by rw [hk]; rfl) (by decide) ?_
        exact law_14 hlt hL C0 hA hbA hK hev hevx hge kont bc rg lo wt sh bn wg bt hg pl has rw of rdg T G n k0 gr Sa La S L Bf Sr Lr Cf bs Dd Oc Cp fo hI H locs hP hD hS ls hl
      · refine lv_tableIn (off := 840) (tgt := 879) hx hb dL_law_39 (by rw [hk]; decide) (by rw [hk]; decide) (by rw [hk]; rfl) (by decide) ?_
        exact law_15 hlt hL C0 hA hbA hK hev hevx hge kont bc rg lo wt sh bn wg bt hg pl has rw of rdg T G n k0 gr Sa La S L Bf Sr Lr Cf bs Dd Oc Cp fo hI H locs hP hD hS ls hl
      · refine lv_tableIn (off := 908) (tgt := 947) hx hb dL_law_39 (by rw [hk]; decide) (by rw [hk]; decide) (by rw [hk]; rfl) (by decide) ?_
        exact law_16 hlt hL C0 hA hbA hK hev hevx hge kont bc rg lo wt sh bn wg bt hg pl has rw of rdg T G n k0 gr Sa La S L Bf Sr Lr Cf bs Dd Oc Cp fo hI H locs hP hD hS ls hl
      · refine lv_tableIn (off := 959) (tgt := 998) hx hb dL_law_39 (by rw [hk]; decide) (by rw [hk]; decide) (by rw [hk]; rfl) (by decide) ?_
        exact law_17 hlt hL C0 hA hbA hK hev hevx hge kont bc rg lo wt sh bn wg bt hg pl has rw of rdg T G n k0 gr Sa La S L Bf Sr Lr Cf bs Dd Oc Cp fo hI H locs hP hD hS ls hl
      · refine lv_tableIn (off := 1043) (tgt := 1082) hx hb dL_law_39 (by rw [hk]; decide) (by rw [hk]; decide) (by rw [hk]; rfl) (by decide) ?_
        exact law_18 hlt hL C0 hA hbA hK hev hevx hge kont bc rg lo wt sh bn wg bt hg pl has rw of rdg T G n k0 gr Sa La S L Bf Sr Lr Cf bs Dd Oc Cp fo hI H locs hP hD hS ls hl
      · refine lv_tableOut (tgt := 1138) hx hb dL_law_39 (Or.inr (by rw [nI_toInt (by omega)]; omega)) (by decide) ?_
        refine lv_iinc (v := nI (4 * j + 4)) (lv' := [(4, .int (nI (4 * j + 4))), (0, .ref b), (1, .ref x), (2, .ref mo), (3, .ref ou)]) hx hb dL_law_1138 hl (k := 4) rfl (by exact nI_add _ 4) (by decide) rfl (fun ls hl => ?_)
        refine lv_goto (tgt := 23) hx hb dL_law_1141 (by decide) ?_
        obtain ⟨hWK, hwg, hbn4, hbc, hCA, hCW, hCR, hRK, hrd, hbig, hwb, hOB, hB8, hRM, hDG, hpj⟩ := hI
        refine W.widen (k := 23 + (j + 1)) (n := 4592 + 6 * (j + 1)) (by omega) (by omega) ?_
        exact kont bc rg lo wt sh bn wg bt hg pl has rw of rdg T G n k0 gr Sa La S L Bf Sr Lr Cf bs Dd Oc Cp fo ⟨hWK, hwg, hbn4, hbc, hCA, hCW, hCR, hRK, hrd, hbig, hwb, hOB, hB8, hRM, hDG, (by omega)⟩ _ _ hP hD hS ls (lv_sub hl [1, 2, 3, 4, 0] rfl)
