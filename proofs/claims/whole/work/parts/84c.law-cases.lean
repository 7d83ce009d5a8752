/-! the law's cases, by program -/
set_option maxHeartbeats 8000000 in
set_option maxRecDepth 100000 in
theorem lc_scaled {p : Program} {l : Launch} {e : Env} {s : State} {m : MethodId} {below : List Frame} {meth : Method} {c : Code} {dC : Nat → ClassId} {dI : Nat → Nat → Nat} {cI cJ : ClassId} {b L : Nat} {xs : Nat → Int32} {aX aM aS : Nat} {f k : Nat → Nat} (C : LC p l e s m meth c dC dI cI cJ b L xs aX aM aS f k) {i : Nat} (hi6 : i + 6 ≤ L) {H : Heap} {locs : List Loc} {ls : Array Slot} {h : Nat → Int32} {nmn : Nat → Int32} {nms : Int32} {nsn : Nat → Int32} {nss : Int32} {nen : Nat → Int32} {nes : Int32} {nbk : Nat → Int32} {nbs : Int32} {np : Int32} {ne : Int32} {nM : Int32} {nwr : Int32} {nwp : Int32} {kmn : Nat → Int32} {kms : Int32} {ksn : Nat → Int32} {kss : Int32} {ken : Nat → Int32} {kes : Int32} {kbk : Nat → Int32} {kbs : Int32} {kp : Int32} {ke : Int32} {kM : Int32} {kwr : Int32} {kwp : Int32} {tmn : Nat → Int32} {tms : Int32} {tsn : Nat → Int32} {tss : Int32} {ten : Nat → Int32} {tes : Int32} {tbk : Nat → Int32} {tbs : Int32} {tp : Int32} {te : Int32} {tM : Int32} {twr : Int32} {twp : Int32} {tx : Nat → Int32} {len : Int32} {nx : Int32} {cn : Nat → Int32} {cs : Int32} {so : Nat → Int32} {le : Nat → Int32} {it : Nat → Int64} {hi : Int32} {g : Nat → Int32} {kg : Nat → Int32} {wg : Nat → Int32} {tri : Nat → Int32} {tb : Int32} {ty : Nat → Int32} {fd : Int32} {pl : Int32} {lt : Int32} {fs : Int32} {sc : Int32} {so2 : Nat → Int32} {sz : Nat → Int32} {it2 : Nat → Int64} {ik : Int32} (RH : HT h) (RO : OK (tri, tb)) (RS : SX nmn nms nsn nss nen nes nbk nbs np ne nM nwr nwp g) (RK : KX hi kmn kms ksn kss ken kes kbk kbs kp ke kM kwr kwp ik kg) (RR : RC tx len ty fd) (RT : TP so le it so2 sz it2) (hP : va_P (dC, dI) vwCl (wd cI cJ aX aM f k h nmn nms nsn nss nen nes nbk nbs np ne nM nwr nwp kmn kms ksn kss ken kes kbk kbs kp ke kM kwr kwp tmn tms tsn tss ten tes tbk tbs tp te tM twr twp tx len nx cn cs so le it hi g kg wg tri tb ty fd pl lt fs sc so2 sz it2 ik) H) (hS : va_S (fun q : Nat => s.heap.size ≤ q) s.heap H locs) (hl : lv_has ls 4 [(0, .ref b), (1, .ref aX), (2, .ref aM), (3, .int (nI i))]) (kk : INVK dC dI cI cJ aX aM f k (fun H => ∀ (locs : List Loc), va_S (fun q : Nat => s.heap.size ≤ q) s.heap H locs → W p l e room_1 s m #[Value.ref b] below meth c H locs 600000 7302250 (lw_Z below #[Value.ref b] s) (F0 m 1390 ls []))) : W p l e room_1 s m #[Value.ref b] below meth c H locs 600000 7302250 (lw_Z below #[Value.ref b] s) (F0 m 806 ls []) := by
  obtain ⟨hx, hb, hml, hown, hts, hX, hbl, hL, hE, hD, hZ, hXS⟩ := C
  have hA : ∀ q : Nat, s.heap.size ≤ q → (fun q : Nat => s.heap.size ≤ q) q := fun _ h => h
  have hbA : ¬ (fun q : Nat => s.heap.size ≤ q) b := Nat.not_le.mpr hbl
  obtain ⟨r, ⟨tri1, tb1⟩, RO1, e6, e7⟩ := pm_scaled (t := (tri, tb)) RS RH RO (xs (i + 1)) (xs (i + 2))
  refine lv_aload_n hx hb dL_law_806 rfl (lv_at hl 1 rfl) ?_
  refine lv_aload_n hx hb dL_law_807 rfl (lv_at hl 0 rfl) ?_
  refine lv_iload_n hx hb dL_law_808 rfl (lv_at hl 3 rfl) ?_
  refine lv_iconst (v := (1 : Int32)) hx hb dL_law_809 (by decide) ?_
  refine lv_iadd hx hb dL_law_810 ?_
  refine va_sld hx hb hX hbl hbA hS (sx_i (x := (1 : Int32)) rfl (j := 1) (by omega) hL) dL_law_811 ?_
  refine tp_ (y := xs (i + 1)) (congrArg xs (sx_c (x := (1 : Int32)) rfl (j := 1) (by omega) hL).symm) ?_
  refine lv_aload_n hx hb dL_law_812 rfl (lv_at hl 0 rfl) ?_
  refine lv_iload_n hx hb dL_law_813 rfl (lv_at hl 3 rfl) ?_
  refine lv_iconst (v := (2 : Int32)) hx hb dL_law_814 (by decide) ?_
  refine lv_iadd hx hb dL_law_815 ?_
  refine va_sld hx hb hX hbl hbA hS (sx_i (x := (2 : Int32)) rfl (j := 2) (by omega) hL) dL_law_816 ?_
  refine tp_ (y := xs (i + 2)) (congrArg xs (sx_c (x := (2 : Int32)) rfl (j := 2) (by omega) hL).symm) ?_
  refine ro_V ⟨hx, hb, hml, hown, hts⟩ (k_X6_scaled l dC dI cI cJ aX (f 0) (f 2) (f 11) (f 20) (f 29) (f 33) (f 1) (f 3) (f 5) (f 7) (f 9) (xs (i + 1)) (xs (i + 2)) hi h np ne nM nwr nwp _ e6) (cwV 2 hts gL_law_X6_scaled rfl rfl rfl (by decide +kernel) ⟨Nat.le_of_ble_eq_true rfl, Nat.le_of_ble_eq_true rfl⟩) hE hP 0 rfl rfl rfl (hP.sub [0, 1, 2, 3] rfl) rfl hl.1 rfl (Nat.le_of_ble_eq_true rfl) dL_law_817 ⟨Nat.le_of_ble_eq_true rfl, Nat.le_of_ble_eq_true rfl⟩ ?_
  refine lv_aload_n hx hb dL_law_820 rfl (lv_at hl 2 rfl) ?_
  refine lv_aload_n hx hb dL_law_821 rfl (lv_at hl 0 rfl) ?_
  refine lv_iload_n hx hb dL_law_822 rfl (lv_at hl 3 rfl) ?_
  refine lv_iconst (v := (1 : Int32)) hx hb dL_law_823 (by decide) ?_
  refine lv_iadd hx hb dL_law_824 ?_
  refine va_sld hx hb hX hbl hbA hS (sx_i (x := (1 : Int32)) rfl (j := 1) (by omega) hL) dL_law_825 ?_
  refine tp_ (y := xs (i + 1)) (congrArg xs (sx_c (x := (1 : Int32)) rfl (j := 1) (by omega) hL).symm) ?_
  refine lv_aload_n hx hb dL_law_826 rfl (lv_at hl 0 rfl) ?_
  refine lv_iload_n hx hb dL_law_827 rfl (lv_at hl 3 rfl) ?_
  refine lv_iconst (v := (2 : Int32)) hx hb dL_law_828 (by decide) ?_
  refine lv_iadd hx hb dL_law_829 ?_
  refine va_sld hx hb hX hbl hbA hS (sx_i (x := (2 : Int32)) rfl (j := 2) (by omega) hL) dL_law_830 ?_
  refine tp_ (y := xs (i + 2)) (congrArg xs (sx_c (x := (2 : Int32)) rfl (j := 2) (by omega) hL).symm) ?_
  refine mu_X ⟨hx, hb, hml, hown, hts⟩ (k_X7_scaled l dC dI cI cJ aM (k 0) (k 1) (k 2) (k 3) (k 4) (k 5) (k 6) (k 7) (xs (i + 1)) (xs (i + 2)) ik tb fd pl lt fs sc g tri H.size _ e7) (cwV 2 hts gL_law_X7_scaled rfl rfl rfl (by decide +kernel) ⟨Nat.le_of_ble_eq_true rfl, Nat.le_of_ble_eq_true rfl⟩) hE 38 rfl rfl rfl rfl hl.1 rfl (Nat.le_of_ble_eq_true rfl) dL_law_831 ⟨Nat.le_of_ble_eq_true rfl, Nat.le_of_ble_eq_true rfl⟩ hP (hD.fst rfl) hS hA [false, false, false, false, false, false, false, false, false, false, false, false, false, false, false, false, false, false, false, false, false, false, false, false, false, false, false, false, false, false, false, false, false, false, false, false, false, false, true, true, false, false, true] rfl (W1 := wd cI cJ aX aM f k h nmn nms nsn nss nen nes nbk nbs np ne nM nwr nwp kmn kms ksn kss ken kes kbk kbs kp ke kM kwr kwp tmn tms tsn tss ten tes tbk tbs tp te tM twr twp tx len nx cn cs so le it hi g kg wg tri1 tb1 ty fd pl lt fs sc so2 sz it2 ik) rfl (fun H locs hP hS => W.eq (g2 := F0 m 834 ls [.int r, .int r]) rfl ?_)
  refine lv_icmp_eq (tgt := 1390) hx hb dL_law_834 (by decide) (fun _ => ?_) (fun q => absurd rfl q)
  exact kk h nmn nms nsn nss nen nes nbk nbs np ne nM nwr nwp kmn kms ksn kss ken kes kbk kbs kp ke kM kwr kwp tmn tms tsn tss ten tes tbk tbs tp te tM twr twp tx len nx cn cs so le it hi g kg wg tri1 tb1 ty fd pl lt fs sc so2 sz it2 ik _ RH RO1 RS RK RR RT hP _ hS
set_option maxHeartbeats 8000000 in
set_option maxRecDepth 100000 in
theorem lc_see {p : Program} {l : Launch} {e : Env} {s : State} {m : MethodId} {below : List Frame} {meth : Method} {c : Code} {dC : Nat → ClassId} {dI : Nat → Nat → Nat} {cI cJ : ClassId} {b L : Nat} {xs : Nat → Int32} {aX aM aS : Nat} {f k : Nat → Nat} (C : LC p l e s m meth c dC dI cI cJ b L xs aX aM aS f k) {i : Nat} (hi6 : i + 6 ≤ L) {H : Heap} {locs : List Loc} {ls : Array Slot} {h : Nat → Int32} {nmn : Nat → Int32} {nms : Int32} {nsn : Nat → Int32} {nss : Int32} {nen : Nat → Int32} {nes : Int32} {nbk : Nat → Int32} {nbs : Int32} {np : Int32} {ne : Int32} {nM : Int32} {nwr : Int32} {nwp : Int32} {kmn : Nat → Int32} {kms : Int32} {ksn : Nat → Int32} {kss : Int32} {ken : Nat → Int32} {kes : Int32} {kbk : Nat → Int32} {kbs : Int32} {kp : Int32} {ke : Int32} {kM : Int32} {kwr : Int32} {kwp : Int32} {tmn : Nat → Int32} {tms : Int32} {tsn : Nat → Int32} {tss : Int32} {ten : Nat → Int32} {tes : Int32} {tbk : Nat → Int32} {tbs : Int32} {tp : Int32} {te : Int32} {tM : Int32} {twr : Int32} {twp : Int32} {tx : Nat → Int32} {len : Int32} {nx : Int32} {cn : Nat → Int32} {cs : Int32} {so : Nat → Int32} {le : Nat → Int32} {it : Nat → Int64} {hi : Int32} {g : Nat → Int32} {kg : Nat → Int32} {wg : Nat → Int32} {tri : Nat → Int32} {tb : Int32} {ty : Nat → Int32} {fd : Int32} {pl : Int32} {lt : Int32} {fs : Int32} {sc : Int32} {so2 : Nat → Int32} {sz : Nat → Int32} {it2 : Nat → Int64} {ik : Int32} (RH : HT h) (RO : OK (tri, tb)) (RS : SX nmn nms nsn nss nen nes nbk nbs np ne nM nwr nwp g) (RK : KX hi kmn kms ksn kss ken kes kbk kbs kp ke kM kwr kwp ik kg) (RR : RC tx len ty fd) (RT : TP so le it so2 sz it2) (hP : va_P (dC, dI) vwCl (wd cI cJ aX aM f k h nmn nms nsn nss nen nes nbk nbs np ne nM nwr nwp kmn kms ksn kss ken kes kbk kbs kp ke kM kwr kwp tmn tms tsn tss ten tes tbk tbs tp te tM twr twp tx len nx cn cs so le it hi g kg wg tri tb ty fd pl lt fs sc so2 sz it2 ik) H) (hS : va_S (fun q : Nat => s.heap.size ≤ q) s.heap H locs) (hl : lv_has ls 4 [(0, .ref b), (1, .ref aX), (2, .ref aM), (3, .int (nI i))]) (kk : INVK dC dI cI cJ aX aM f k (fun H => ∀ (locs : List Loc), va_S (fun q : Nat => s.heap.size ≤ q) s.heap H locs → W p l e room_1 s m #[Value.ref b] below meth c H locs 600000 7302250 (lw_Z below #[Value.ref b] s) (F0 m 1390 ls []))) : W p l e room_1 s m #[Value.ref b] below meth c H locs 600000 7302250 (lw_Z below #[Value.ref b] s) (F0 m 839 ls []) := by
  obtain ⟨hx, hb, hml, hown, hts, hX, hbl, hL, hE, hD, hZ, hXS⟩ := C
  have hA : ∀ q : Nat, s.heap.size ≤ q → (fun q : Nat => s.heap.size ≤ q) q := fun _ h => h
  have hbA : ¬ (fun q : Nat => s.heap.size ≤ q) b := Nat.not_le.mpr hbl
  obtain ⟨r, nsn1, nss1, g1, RS1, e6, e7⟩ := pm_see RS (xs (i + 1)) (xs (i + 2)) (xs (i + 3))
  refine lv_aload_n hx hb dL_law_839 rfl (lv_at hl 1 rfl) ?_
  refine lv_aload_n hx hb dL_law_840 rfl (lv_at hl 0 rfl) ?_
  refine lv_iload_n hx hb dL_law_841 rfl (lv_at hl 3 rfl) ?_
  refine lv_iconst (v := (1 : Int32)) hx hb dL_law_842 (by decide) ?_
  refine lv_iadd hx hb dL_law_843 ?_
  refine va_sld hx hb hX hbl hbA hS (sx_i (x := (1 : Int32)) rfl (j := 1) (by omega) hL) dL_law_844 ?_
  refine tp_ (y := xs (i + 1)) (congrArg xs (sx_c (x := (1 : Int32)) rfl (j := 1) (by omega) hL).symm) ?_
  refine lv_aload_n hx hb dL_law_845 rfl (lv_at hl 0 rfl) ?_
  refine lv_iload_n hx hb dL_law_846 rfl (lv_at hl 3 rfl) ?_
  refine lv_iconst (v := (2 : Int32)) hx hb dL_law_847 (by decide) ?_
  refine lv_iadd hx hb dL_law_848 ?_
  refine va_sld hx hb hX hbl hbA hS (sx_i (x := (2 : Int32)) rfl (j := 2) (by omega) hL) dL_law_849 ?_
  refine tp_ (y := xs (i + 2)) (congrArg xs (sx_c (x := (2 : Int32)) rfl (j := 2) (by omega) hL).symm) ?_
  refine lv_aload_n hx hb dL_law_850 rfl (lv_at hl 0 rfl) ?_
  refine lv_iload_n hx hb dL_law_851 rfl (lv_at hl 3 rfl) ?_
  refine lv_iconst (v := (3 : Int32)) hx hb dL_law_852 (by decide) ?_
  refine lv_iadd hx hb dL_law_853 ?_
  refine va_sld hx hb hX hbl hbA hS (sx_i (x := (3 : Int32)) rfl (j := 3) (by omega) hL) dL_law_854 ?_
  refine tp_ (y := xs (i + 3)) (congrArg xs (sx_c (x := (3 : Int32)) rfl (j := 3) (by omega) hL).symm) ?_
  refine mu_X ⟨hx, hb, hml, hown, hts⟩ (k_X6_see l dC dI cI cJ aX (f 0) (f 2) (f 11) (f 20) (f 29) (f 33) (f 3) (f 5) (f 7) (f 9) (f 6) (xs (i + 1)) (xs (i + 2)) (xs (i + 3)) hi np ne nM nwr nwp nss nsn H.size _ e6) (cwV 3 hts gL_law_X6_see rfl rfl rfl (by decide +kernel) ⟨Nat.le_of_ble_eq_true rfl, Nat.le_of_ble_eq_true rfl⟩) hE 0 rfl rfl rfl rfl hl.1 rfl (Nat.le_of_ble_eq_true rfl) dL_law_855 ⟨Nat.le_of_ble_eq_true rfl, Nat.le_of_ble_eq_true rfl⟩ hP (hD.fst rfl) hS hA [true, false, false, true, false, false, true, true] rfl (W1 := wd cI cJ aX aM f k h nmn nms nsn1 nss1 nen nes nbk nbs np ne nM nwr nwp kmn kms ksn kss ken kes kbk kbs kp ke kM kwr kwp tmn tms tsn tss ten tes tbk tbs tp te tM twr twp tx len nx cn cs so le it hi g kg wg tri tb ty fd pl lt fs sc so2 sz it2 ik) rfl (fun H locs hP hS => W.eq (g2 := F0 m 858 ls [.int r]) rfl ?_)
  refine lv_aload_n hx hb dL_law_858 rfl (lv_at hl 2 rfl) ?_
  refine lv_aload_n hx hb dL_law_859 rfl (lv_at hl 0 rfl) ?_
  refine lv_iload_n hx hb dL_law_860 rfl (lv_at hl 3 rfl) ?_
  refine lv_iconst (v := (1 : Int32)) hx hb dL_law_861 (by decide) ?_
  refine lv_iadd hx hb dL_law_862 ?_
  refine va_sld hx hb hX hbl hbA hS (sx_i (x := (1 : Int32)) rfl (j := 1) (by omega) hL) dL_law_863 ?_
  refine tp_ (y := xs (i + 1)) (congrArg xs (sx_c (x := (1 : Int32)) rfl (j := 1) (by omega) hL).symm) ?_
  refine lv_aload_n hx hb dL_law_864 rfl (lv_at hl 0 rfl) ?_
  refine lv_iload_n hx hb dL_law_865 rfl (lv_at hl 3 rfl) ?_
  refine lv_iconst (v := (2 : Int32)) hx hb dL_law_866 (by decide) ?_
  refine lv_iadd hx hb dL_law_867 ?_
  refine va_sld hx hb hX hbl hbA hS (sx_i (x := (2 : Int32)) rfl (j := 2) (by omega) hL) dL_law_868 ?_
  refine tp_ (y := xs (i + 2)) (congrArg xs (sx_c (x := (2 : Int32)) rfl (j := 2) (by omega) hL).symm) ?_
  refine lv_aload_n hx hb dL_law_869 rfl (lv_at hl 0 rfl) ?_
  refine lv_iload_n hx hb dL_law_870 rfl (lv_at hl 3 rfl) ?_
  refine lv_iconst (v := (3 : Int32)) hx hb dL_law_871 (by decide) ?_
  refine lv_iadd hx hb dL_law_872 ?_
  refine va_sld hx hb hX hbl hbA hS (sx_i (x := (3 : Int32)) rfl (j := 3) (by omega) hL) dL_law_873 ?_
  refine tp_ (y := xs (i + 3)) (congrArg xs (sx_c (x := (3 : Int32)) rfl (j := 3) (by omega) hL).symm) ?_
  refine mu_X ⟨hx, hb, hml, hown, hts⟩ (k_X7_see l dC dI cI cJ aM (k 0) (k 1) (k 2) (k 3) (k 4) (k 5) (k 6) (k 7) (xs (i + 1)) (xs (i + 2)) (xs (i + 3)) ik tb fd pl lt fs sc g H.size _ e7) (cwV 3 hts gL_law_X7_see rfl rfl rfl (by decide +kernel) ⟨Nat.le_of_ble_eq_true rfl, Nat.le_of_ble_eq_true rfl⟩) hE 38 rfl rfl rfl rfl hl.1 rfl (Nat.le_of_ble_eq_true rfl) dL_law_874 ⟨Nat.le_of_ble_eq_true rfl, Nat.le_of_ble_eq_true rfl⟩ hP (hD.fst rfl) hS hA [false, false, false, false, false, false, false, false, false, false, false, false, false, false, false, false, false, false, false, false, false, false, false, false, false, false, false, false, false, false, false, false, false, false, false, false, false, false, true, true] rfl (W1 := wd cI cJ aX aM f k h nmn nms nsn1 nss1 nen nes nbk nbs np ne nM nwr nwp kmn kms ksn kss ken kes kbk kbs kp ke kM kwr kwp tmn tms tsn tss ten tes tbk tbs tp te tM twr twp tx len nx cn cs so le it hi g1 kg wg tri tb ty fd pl lt fs sc so2 sz it2 ik) rfl (fun H locs hP hS => W.eq (g2 := F0 m 877 ls [.int r, .int r]) rfl ?_)
  refine lv_icmp_eq (tgt := 1390) hx hb dL_law_877 (by decide) (fun _ => ?_) (fun q => absurd rfl q)
  exact kk h nmn nms nsn1 nss1 nen nes nbk nbs np ne nM nwr nwp kmn kms ksn kss ken kes kbk kbs kp ke kM kwr kwp tmn tms tsn tss ten tes tbk tbs tp te tM twr twp tx len nx cn cs so le it hi g1 kg wg tri tb ty fd pl lt fs sc so2 sz it2 ik _ RH RO RS1 RK RR RT hP _ hS
set_option maxHeartbeats 8000000 in
set_option maxRecDepth 100000 in
theorem lc_fits {p : Program} {l : Launch} {e : Env} {s : State} {m : MethodId} {below : List Frame} {meth : Method} {c : Code} {dC : Nat → ClassId} {dI : Nat → Nat → Nat} {cI cJ : ClassId} {b L : Nat} {xs : Nat → Int32} {aX aM aS : Nat} {f k : Nat → Nat} (C : LC p l e s m meth c dC dI cI cJ b L xs aX aM aS f k) {i : Nat} (hi6 : i + 6 ≤ L) {H : Heap} {locs : List Loc} {ls : Array Slot} {h : Nat → Int32} {nmn : Nat → Int32} {nms : Int32} {nsn : Nat → Int32} {nss : Int32} {nen : Nat → Int32} {nes : Int32} {nbk : Nat → Int32} {nbs : Int32} {np : Int32} {ne : Int32} {nM : Int32} {nwr : Int32} {nwp : Int32} {kmn : Nat → Int32} {kms : Int32} {ksn : Nat → Int32} {kss : Int32} {ken : Nat → Int32} {kes : Int32} {kbk : Nat → Int32} {kbs : Int32} {kp : Int32} {ke : Int32} {kM : Int32} {kwr : Int32} {kwp : Int32} {tmn : Nat → Int32} {tms : Int32} {tsn : Nat → Int32} {tss : Int32} {ten : Nat → Int32} {tes : Int32} {tbk : Nat → Int32} {tbs : Int32} {tp : Int32} {te : Int32} {tM : Int32} {twr : Int32} {twp : Int32} {tx : Nat → Int32} {len : Int32} {nx : Int32} {cn : Nat → Int32} {cs : Int32} {so : Nat → Int32} {le : Nat → Int32} {it : Nat → Int64} {hi : Int32} {g : Nat → Int32} {kg : Nat → Int32} {wg : Nat → Int32} {tri : Nat → Int32} {tb : Int32} {ty : Nat → Int32} {fd : Int32} {pl : Int32} {lt : Int32} {fs : Int32} {sc : Int32} {so2 : Nat → Int32} {sz : Nat → Int32} {it2 : Nat → Int64} {ik : Int32} (RH : HT h) (RO : OK (tri, tb)) (RS : SX nmn nms nsn nss nen nes nbk nbs np ne nM nwr nwp g) (RK : KX hi kmn kms ksn kss ken kes kbk kbs kp ke kM kwr kwp ik kg) (RR : RC tx len ty fd) (RT : TP so le it so2 sz it2) (hP : va_P (dC, dI) vwCl (wd cI cJ aX aM f k h nmn nms nsn nss nen nes nbk nbs np ne nM nwr nwp kmn kms ksn kss ken kes kbk kbs kp ke kM kwr kwp tmn tms tsn tss ten tes tbk tbs tp te tM twr twp tx len nx cn cs so le it hi g kg wg tri tb ty fd pl lt fs sc so2 sz it2 ik) H) (hS : va_S (fun q : Nat => s.heap.size ≤ q) s.heap H locs) (hl : lv_has ls 4 [(0, .ref b), (1, .ref aX), (2, .ref aM), (3, .int (nI i))]) (kk : INVK dC dI cI cJ aX aM f k (fun H => ∀ (locs : List Loc), va_S (fun q : Nat => s.heap.size ≤ q) s.heap H locs → W p l e room_1 s m #[Value.ref b] below meth c H locs 600000 7302250 (lw_Z below #[Value.ref b] s) (F0 m 1390 ls []))) : W p l e room_1 s m #[Value.ref b] below meth c H locs 600000 7302250 (lw_Z below #[Value.ref b] s) (F0 m 882 ls []) := by
  obtain ⟨hx, hb, hml, hown, hts, hX, hbl, hL, hE, hD, hZ, hXS⟩ := C
  have hA : ∀ q : Nat, s.heap.size ≤ q → (fun q : Nat => s.heap.size ≤ q) q := fun _ h => h
  have hbA : ¬ (fun q : Nat => s.heap.size ≤ q) b := Nat.not_le.mpr hbl
  obtain ⟨r, ⟨tri1, tb1⟩, RO1, e6, e7⟩ := pm_fits (t := (tri, tb)) RS RH RO PS_v
  refine lv_aload_n hx hb dL_law_882 rfl (lv_at hl 1 rfl) ?_
  refine ro_VX ⟨hx, hb, hml, hown, hts⟩ (k_X6_fitsS l dC dI cI cJ aX (f 0) (f 2) (f 11) (f 20) (f 29) (f 33) (f 1) (f 3) (f 5) (f 7) (f 9) (f 6) aS hi h np ne nM nwr nwp nss nsn PS _ e6) (cwV 0 hts gL_law_X6_fits rfl rfl rfl (by decide +kernel) ⟨Nat.le_of_ble_eq_true rfl, Nat.le_of_ble_eq_true rfl⟩) hE hP 0 rfl rfl rfl (hP.sub [0, 1, 2, 3, 6, 7] rfl) (hZ.kept (fun a h1 _ => hS.2.1 a h1 (Nat.not_le.mpr h1))) (hXS.kept (hS.2.1 aS (va_Xlt hXS) (Nat.not_le.mpr (va_Xlt hXS)))) rfl hl.1 rfl (Nat.le_of_ble_eq_true rfl) dL_law_883 ⟨Nat.le_of_ble_eq_true rfl, Nat.le_of_ble_eq_true rfl⟩ ?_
  refine lv_aload_n hx hb dL_law_886 rfl (lv_at hl 2 rfl) ?_
  refine mu_X ⟨hx, hb, hml, hown, hts⟩ (k_X7_fits l dC dI cI cJ aM (k 0) (k 1) (k 2) (k 3) (k 4) (k 5) (k 6) (k 7) ik tb fd pl lt fs sc g tri H.size _ e7) (cwV 0 hts gL_law_X7_fits rfl rfl rfl (by decide +kernel) ⟨Nat.le_of_ble_eq_true rfl, Nat.le_of_ble_eq_true rfl⟩) hE 38 rfl rfl rfl rfl hl.1 rfl (Nat.le_of_ble_eq_true rfl) dL_law_887 ⟨Nat.le_of_ble_eq_true rfl, Nat.le_of_ble_eq_true rfl⟩ hP (hD.fst rfl) hS hA [false, false, false, false, false, false, false, false, false, false, false, false, false, false, false, false, false, false, false, false, false, false, false, false, false, false, false, false, false, false, false, false, false, false, false, false, false, false, true, true, false, false, true] rfl (W1 := wd cI cJ aX aM f k h nmn nms nsn nss nen nes nbk nbs np ne nM nwr nwp kmn kms ksn kss ken kes kbk kbs kp ke kM kwr kwp tmn tms tsn tss ten tes tbk tbs tp te tM twr twp tx len nx cn cs so le it hi g kg wg tri1 tb1 ty fd pl lt fs sc so2 sz it2 ik) rfl (fun H locs hP hS => W.eq (g2 := F0 m 890 ls [.int r, .int r]) rfl ?_)
  refine lv_icmp_eq (tgt := 1390) hx hb dL_law_890 (by decide) (fun _ => ?_) (fun q => absurd rfl q)
  exact kk h nmn nms nsn nss nen nes nbk nbs np ne nM nwr nwp kmn kms ksn kss ken kes kbk kbs kp ke kM kwr kwp tmn tms tsn tss ten tes tbk tbs tp te tM twr twp tx len nx cn cs so le it hi g kg wg tri1 tb1 ty fd pl lt fs sc so2 sz it2 ik _ RH RO1 RS RK RR RT hP _ hS
set_option maxHeartbeats 8000000 in
set_option maxRecDepth 100000 in
theorem lc_odds {p : Program} {l : Launch} {e : Env} {s : State} {m : MethodId} {below : List Frame} {meth : Method} {c : Code} {dC : Nat → ClassId} {dI : Nat → Nat → Nat} {cI cJ : ClassId} {b L : Nat} {xs : Nat → Int32} {aX aM aS : Nat} {f k : Nat → Nat} (C : LC p l e s m meth c dC dI cI cJ b L xs aX aM aS f k) {i : Nat} (hi6 : i + 6 ≤ L) {H : Heap} {locs : List Loc} {ls : Array Slot} {h : Nat → Int32} {nmn : Nat → Int32} {nms : Int32} {nsn : Nat → Int32} {nss : Int32} {nen : Nat → Int32} {nes : Int32} {nbk : Nat → Int32} {nbs : Int32} {np : Int32} {ne : Int32} {nM : Int32} {nwr : Int32} {nwp : Int32} {kmn : Nat → Int32} {kms : Int32} {ksn : Nat → Int32} {kss : Int32} {ken : Nat → Int32} {kes : Int32} {kbk : Nat → Int32} {kbs : Int32} {kp : Int32} {ke : Int32} {kM : Int32} {kwr : Int32} {kwp : Int32} {tmn : Nat → Int32} {tms : Int32} {tsn : Nat → Int32} {tss : Int32} {ten : Nat → Int32} {tes : Int32} {tbk : Nat → Int32} {tbs : Int32} {tp : Int32} {te : Int32} {tM : Int32} {twr : Int32} {twp : Int32} {tx : Nat → Int32} {len : Int32} {nx : Int32} {cn : Nat → Int32} {cs : Int32} {so : Nat → Int32} {le : Nat → Int32} {it : Nat → Int64} {hi : Int32} {g : Nat → Int32} {kg : Nat → Int32} {wg : Nat → Int32} {tri : Nat → Int32} {tb : Int32} {ty : Nat → Int32} {fd : Int32} {pl : Int32} {lt : Int32} {fs : Int32} {sc : Int32} {so2 : Nat → Int32} {sz : Nat → Int32} {it2 : Nat → Int64} {ik : Int32} (RH : HT h) (RO : OK (tri, tb)) (RS : SX nmn nms nsn nss nen nes nbk nbs np ne nM nwr nwp g) (RK : KX hi kmn kms ksn kss ken kes kbk kbs kp ke kM kwr kwp ik kg) (RR : RC tx len ty fd) (RT : TP so le it so2 sz it2) (hP : va_P (dC, dI) vwCl (wd cI cJ aX aM f k h nmn nms nsn nss nen nes nbk nbs np ne nM nwr nwp kmn kms ksn kss ken kes kbk kbs kp ke kM kwr kwp tmn tms tsn tss ten tes tbk tbs tp te tM twr twp tx len nx cn cs so le it hi g kg wg tri tb ty fd pl lt fs sc so2 sz it2 ik) H) (hS : va_S (fun q : Nat => s.heap.size ≤ q) s.heap H locs) (hl : lv_has ls 4 [(0, .ref b), (1, .ref aX), (2, .ref aM), (3, .int (nI i))]) (kk : INVK dC dI cI cJ aX aM f k (fun H => ∀ (locs : List Loc), va_S (fun q : Nat => s.heap.size ≤ q) s.heap H locs → W p l e room_1 s m #[Value.ref b] below meth c H locs 600000 7302250 (lw_Z below #[Value.ref b] s) (F0 m 1390 ls []))) : W p l e room_1 s m #[Value.ref b] below meth c H locs 600000 7302250 (lw_Z below #[Value.ref b] s) (F0 m 895 ls []) := by
  obtain ⟨hx, hb, hml, hown, hts, hX, hbl, hL, hE, hD, hZ, hXS⟩ := C
  have hA : ∀ q : Nat, s.heap.size ≤ q → (fun q : Nat => s.heap.size ≤ q) q := fun _ h => h
  have hbA : ¬ (fun q : Nat => s.heap.size ≤ q) b := Nat.not_le.mpr hbl
  obtain ⟨r, ⟨tri1, tb1⟩, RO1, e6, e7⟩ := pm_odds (t := (tri, tb)) RS RH RO (xs (i + 1)) (xs (i + 2)) (xs (i + 3)) (xs (i + 4))
  refine lv_aload_n hx hb dL_law_895 rfl (lv_at hl 1 rfl) ?_
  refine lv_aload_n hx hb dL_law_896 rfl (lv_at hl 0 rfl) ?_
  refine lv_iload_n hx hb dL_law_897 rfl (lv_at hl 3 rfl) ?_
  refine lv_iconst (v := (1 : Int32)) hx hb dL_law_898 (by decide) ?_
  refine lv_iadd hx hb dL_law_899 ?_
  refine va_sld hx hb hX hbl hbA hS (sx_i (x := (1 : Int32)) rfl (j := 1) (by omega) hL) dL_law_900 ?_
  refine tp_ (y := xs (i + 1)) (congrArg xs (sx_c (x := (1 : Int32)) rfl (j := 1) (by omega) hL).symm) ?_
  refine lv_aload_n hx hb dL_law_901 rfl (lv_at hl 0 rfl) ?_
  refine lv_iload_n hx hb dL_law_902 rfl (lv_at hl 3 rfl) ?_
  refine lv_iconst (v := (2 : Int32)) hx hb dL_law_903 (by decide) ?_
  refine lv_iadd hx hb dL_law_904 ?_
  refine va_sld hx hb hX hbl hbA hS (sx_i (x := (2 : Int32)) rfl (j := 2) (by omega) hL) dL_law_905 ?_
  refine tp_ (y := xs (i + 2)) (congrArg xs (sx_c (x := (2 : Int32)) rfl (j := 2) (by omega) hL).symm) ?_
  refine lv_aload_n hx hb dL_law_906 rfl (lv_at hl 0 rfl) ?_
  refine lv_iload_n hx hb dL_law_907 rfl (lv_at hl 3 rfl) ?_
  refine lv_iconst (v := (3 : Int32)) hx hb dL_law_908 (by decide) ?_
  refine lv_iadd hx hb dL_law_909 ?_
  refine va_sld hx hb hX hbl hbA hS (sx_i (x := (3 : Int32)) rfl (j := 3) (by omega) hL) dL_law_910 ?_
  refine tp_ (y := xs (i + 3)) (congrArg xs (sx_c (x := (3 : Int32)) rfl (j := 3) (by omega) hL).symm) ?_
  refine lv_aload_n hx hb dL_law_911 rfl (lv_at hl 0 rfl) ?_
  refine lv_iload_n hx hb dL_law_912 rfl (lv_at hl 3 rfl) ?_
  refine lv_iconst (v := (4 : Int32)) hx hb dL_law_913 (by decide) ?_
  refine lv_iadd hx hb dL_law_914 ?_
  refine va_sld hx hb hX hbl hbA hS (sx_i (x := (4 : Int32)) rfl (j := 4) (by omega) hL) dL_law_915 ?_
  refine tp_ (y := xs (i + 4)) (congrArg xs (sx_c (x := (4 : Int32)) rfl (j := 4) (by omega) hL).symm) ?_
  refine ro_V ⟨hx, hb, hml, hown, hts⟩ (k_X6_odds l dC dI cI cJ aX (f 0) (f 2) (f 11) (f 20) (f 29) (f 33) (f 1) (f 3) (f 5) (f 7) (f 9) (xs (i + 1)) (xs (i + 2)) (xs (i + 3)) (xs (i + 4)) hi h np ne nM nwr nwp _ e6) (cwV 4 hts gL_law_X6_odds rfl rfl rfl (by decide +kernel) ⟨Nat.le_of_ble_eq_true rfl, Nat.le_of_ble_eq_true rfl⟩) hE hP 0 rfl rfl rfl (hP.sub [0, 1, 2, 3] rfl) rfl hl.1 rfl (Nat.le_of_ble_eq_true rfl) dL_law_916 ⟨Nat.le_of_ble_eq_true rfl, Nat.le_of_ble_eq_true rfl⟩ ?_
  refine lv_aload_n hx hb dL_law_919 rfl (lv_at hl 2 rfl) ?_
  refine lv_aload_n hx hb dL_law_920 rfl (lv_at hl 0 rfl) ?_
  refine lv_iload_n hx hb dL_law_921 rfl (lv_at hl 3 rfl) ?_
  refine lv_iconst (v := (1 : Int32)) hx hb dL_law_922 (by decide) ?_
  refine lv_iadd hx hb dL_law_923 ?_
  refine va_sld hx hb hX hbl hbA hS (sx_i (x := (1 : Int32)) rfl (j := 1) (by omega) hL) dL_law_924 ?_
  refine tp_ (y := xs (i + 1)) (congrArg xs (sx_c (x := (1 : Int32)) rfl (j := 1) (by omega) hL).symm) ?_
  refine lv_aload_n hx hb dL_law_925 rfl (lv_at hl 0 rfl) ?_
  refine lv_iload_n hx hb dL_law_926 rfl (lv_at hl 3 rfl) ?_
  refine lv_iconst (v := (2 : Int32)) hx hb dL_law_927 (by decide) ?_
  refine lv_iadd hx hb dL_law_928 ?_
  refine va_sld hx hb hX hbl hbA hS (sx_i (x := (2 : Int32)) rfl (j := 2) (by omega) hL) dL_law_929 ?_
  refine tp_ (y := xs (i + 2)) (congrArg xs (sx_c (x := (2 : Int32)) rfl (j := 2) (by omega) hL).symm) ?_
  refine lv_aload_n hx hb dL_law_930 rfl (lv_at hl 0 rfl) ?_
  refine lv_iload_n hx hb dL_law_931 rfl (lv_at hl 3 rfl) ?_
  refine lv_iconst (v := (3 : Int32)) hx hb dL_law_932 (by decide) ?_
  refine lv_iadd hx hb dL_law_933 ?_
  refine va_sld hx hb hX hbl hbA hS (sx_i (x := (3 : Int32)) rfl (j := 3) (by omega) hL) dL_law_934 ?_
  refine tp_ (y := xs (i + 3)) (congrArg xs (sx_c (x := (3 : Int32)) rfl (j := 3) (by omega) hL).symm) ?_
  refine lv_aload_n hx hb dL_law_935 rfl (lv_at hl 0 rfl) ?_
  refine lv_iload_n hx hb dL_law_936 rfl (lv_at hl 3 rfl) ?_
  refine lv_iconst (v := (4 : Int32)) hx hb dL_law_937 (by decide) ?_
  refine lv_iadd hx hb dL_law_938 ?_
  refine va_sld hx hb hX hbl hbA hS (sx_i (x := (4 : Int32)) rfl (j := 4) (by omega) hL) dL_law_939 ?_
  refine tp_ (y := xs (i + 4)) (congrArg xs (sx_c (x := (4 : Int32)) rfl (j := 4) (by omega) hL).symm) ?_
  refine mu_X ⟨hx, hb, hml, hown, hts⟩ (k_X7_odds l dC dI cI cJ aM (k 0) (k 1) (k 2) (k 3) (k 4) (k 5) (k 6) (k 7) (xs (i + 1)) (xs (i + 2)) (xs (i + 3)) (xs (i + 4)) ik tb fd pl lt fs sc g tri H.size _ e7) (cwV 4 hts gL_law_X7_odds rfl rfl rfl (by decide +kernel) ⟨Nat.le_of_ble_eq_true rfl, Nat.le_of_ble_eq_true rfl⟩) hE 38 rfl rfl rfl rfl hl.1 rfl (Nat.le_of_ble_eq_true rfl) dL_law_940 ⟨Nat.le_of_ble_eq_true rfl, Nat.le_of_ble_eq_true rfl⟩ hP (hD.fst rfl) hS hA [false, false, false, false, false, false, false, false, false, false, false, false, false, false, false, false, false, false, false, false, false, false, false, false, false, false, false, false, false, false, false, false, false, false, false, false, false, false, true, true, false, false, true] rfl (W1 := wd cI cJ aX aM f k h nmn nms nsn nss nen nes nbk nbs np ne nM nwr nwp kmn kms ksn kss ken kes kbk kbs kp ke kM kwr kwp tmn tms tsn tss ten tes tbk tbs tp te tM twr twp tx len nx cn cs so le it hi g kg wg tri1 tb1 ty fd pl lt fs sc so2 sz it2 ik) rfl (fun H locs hP hS => W.eq (g2 := F0 m 943 ls [.long r, .long r]) rfl ?_)
  refine W.lcmp hx hb dL_law_943 ?_
  refine lv_if_eq (tgt := 1390) hx hb dL_law_944 (by decide) (fun _ => ?_) (fun q => absurd ((lg_cmp_eq _ _).mpr rfl) q)
  exact kk h nmn nms nsn nss nen nes nbk nbs np ne nM nwr nwp kmn kms ksn kss ken kes kbk kbs kp ke kM kwr kwp tmn tms tsn tss ten tes tbk tbs tp te tM twr twp tx len nx cn cs so le it hi g kg wg tri1 tb1 ty fd pl lt fs sc so2 sz it2 ik _ RH RO1 RS RK RR RT hP _ hS
set_option maxHeartbeats 8000000 in
set_option maxRecDepth 100000 in
theorem lc_mean {p : Program} {l : Launch} {e : Env} {s : State} {m : MethodId} {below : List Frame} {meth : Method} {c : Code} {dC : Nat → ClassId} {dI : Nat → Nat → Nat} {cI cJ : ClassId} {b L : Nat} {xs : Nat → Int32} {aX aM aS : Nat} {f k : Nat → Nat} (C : LC p l e s m meth c dC dI cI cJ b L xs aX aM aS f k) {i : Nat} (hi6 : i + 6 ≤ L) {H : Heap} {locs : List Loc} {ls : Array Slot} {h : Nat → Int32} {nmn : Nat → Int32} {nms : Int32} {nsn : Nat → Int32} {nss : Int32} {nen : Nat → Int32} {nes : Int32} {nbk : Nat → Int32} {nbs : Int32} {np : Int32} {ne : Int32} {nM : Int32} {nwr : Int32} {nwp : Int32} {kmn : Nat → Int32} {kms : Int32} {ksn : Nat → Int32} {kss : Int32} {ken : Nat → Int32} {kes : Int32} {kbk : Nat → Int32} {kbs : Int32} {kp : Int32} {ke : Int32} {kM : Int32} {kwr : Int32} {kwp : Int32} {tmn : Nat → Int32} {tms : Int32} {tsn : Nat → Int32} {tss : Int32} {ten : Nat → Int32} {tes : Int32} {tbk : Nat → Int32} {tbs : Int32} {tp : Int32} {te : Int32} {tM : Int32} {twr : Int32} {twp : Int32} {tx : Nat → Int32} {len : Int32} {nx : Int32} {cn : Nat → Int32} {cs : Int32} {so : Nat → Int32} {le : Nat → Int32} {it : Nat → Int64} {hi : Int32} {g : Nat → Int32} {kg : Nat → Int32} {wg : Nat → Int32} {tri : Nat → Int32} {tb : Int32} {ty : Nat → Int32} {fd : Int32} {pl : Int32} {lt : Int32} {fs : Int32} {sc : Int32} {so2 : Nat → Int32} {sz : Nat → Int32} {it2 : Nat → Int64} {ik : Int32} (RH : HT h) (RO : OK (tri, tb)) (RS : SX nmn nms nsn nss nen nes nbk nbs np ne nM nwr nwp g) (RK : KX hi kmn kms ksn kss ken kes kbk kbs kp ke kM kwr kwp ik kg) (RR : RC tx len ty fd) (RT : TP so le it so2 sz it2) (hP : va_P (dC, dI) vwCl (wd cI cJ aX aM f k h nmn nms nsn nss nen nes nbk nbs np ne nM nwr nwp kmn kms ksn kss ken kes kbk kbs kp ke kM kwr kwp tmn tms tsn tss ten tes tbk tbs tp te tM twr twp tx len nx cn cs so le it hi g kg wg tri tb ty fd pl lt fs sc so2 sz it2 ik) H) (hS : va_S (fun q : Nat => s.heap.size ≤ q) s.heap H locs) (hl : lv_has ls 4 [(0, .ref b), (1, .ref aX), (2, .ref aM), (3, .int (nI i))]) (kk : INVK dC dI cI cJ aX aM f k (fun H => ∀ (locs : List Loc), va_S (fun q : Nat => s.heap.size ≤ q) s.heap H locs → W p l e room_1 s m #[Value.ref b] below meth c H locs 600000 7302250 (lw_Z below #[Value.ref b] s) (F0 m 1390 ls []))) : W p l e room_1 s m #[Value.ref b] below meth c H locs 600000 7302250 (lw_Z below #[Value.ref b] s) (F0 m 949 ls []) := by
  obtain ⟨hx, hb, hml, hown, hts, hX, hbl, hL, hE, hD, hZ, hXS⟩ := C
  have hA : ∀ q : Nat, s.heap.size ≤ q → (fun q : Nat => s.heap.size ≤ q) q := fun _ h => h
  have hbA : ¬ (fun q : Nat => s.heap.size ≤ q) b := Nat.not_le.mpr hbl
  obtain ⟨r, ⟨tri1, tb1⟩, RO1, e6, e7⟩ := pm_mean (t := (tri, tb)) RS RH RO (xs (i + 1)) (xs (i + 2))
  refine lv_aload_n hx hb dL_law_949 rfl (lv_at hl 1 rfl) ?_
  refine lv_aload_n hx hb dL_law_950 rfl (lv_at hl 0 rfl) ?_
  refine lv_iload_n hx hb dL_law_951 rfl (lv_at hl 3 rfl) ?_
  refine lv_iconst (v := (1 : Int32)) hx hb dL_law_952 (by decide) ?_
  refine lv_iadd hx hb dL_law_953 ?_
  refine va_sld hx hb hX hbl hbA hS (sx_i (x := (1 : Int32)) rfl (j := 1) (by omega) hL) dL_law_954 ?_
  refine tp_ (y := xs (i + 1)) (congrArg xs (sx_c (x := (1 : Int32)) rfl (j := 1) (by omega) hL).symm) ?_
  refine lv_aload_n hx hb dL_law_955 rfl (lv_at hl 0 rfl) ?_
  refine lv_iload_n hx hb dL_law_956 rfl (lv_at hl 3 rfl) ?_
  refine lv_iconst (v := (2 : Int32)) hx hb dL_law_957 (by decide) ?_
  refine lv_iadd hx hb dL_law_958 ?_
  refine va_sld hx hb hX hbl hbA hS (sx_i (x := (2 : Int32)) rfl (j := 2) (by omega) hL) dL_law_959 ?_
  refine tp_ (y := xs (i + 2)) (congrArg xs (sx_c (x := (2 : Int32)) rfl (j := 2) (by omega) hL).symm) ?_
  refine ro_V ⟨hx, hb, hml, hown, hts⟩ (k_X6_mean l dC dI cI cJ aX (f 0) (f 2) (f 11) (f 20) (f 29) (f 33) (f 1) (f 3) (f 5) (f 7) (f 9) (xs (i + 1)) (xs (i + 2)) hi h np ne nM nwr nwp _ e6) (cwV 2 hts gL_law_X6_mean rfl rfl rfl (by decide +kernel) ⟨Nat.le_of_ble_eq_true rfl, Nat.le_of_ble_eq_true rfl⟩) hE hP 0 rfl rfl rfl (hP.sub [0, 1, 2, 3] rfl) rfl hl.1 rfl (Nat.le_of_ble_eq_true rfl) dL_law_960 ⟨Nat.le_of_ble_eq_true rfl, Nat.le_of_ble_eq_true rfl⟩ ?_
  refine lv_aload_n hx hb dL_law_963 rfl (lv_at hl 2 rfl) ?_
  refine lv_aload_n hx hb dL_law_964 rfl (lv_at hl 0 rfl) ?_
  refine lv_iload_n hx hb dL_law_965 rfl (lv_at hl 3 rfl) ?_
  refine lv_iconst (v := (1 : Int32)) hx hb dL_law_966 (by decide) ?_
  refine lv_iadd hx hb dL_law_967 ?_
  refine va_sld hx hb hX hbl hbA hS (sx_i (x := (1 : Int32)) rfl (j := 1) (by omega) hL) dL_law_968 ?_
  refine tp_ (y := xs (i + 1)) (congrArg xs (sx_c (x := (1 : Int32)) rfl (j := 1) (by omega) hL).symm) ?_
  refine lv_aload_n hx hb dL_law_969 rfl (lv_at hl 0 rfl) ?_
  refine lv_iload_n hx hb dL_law_970 rfl (lv_at hl 3 rfl) ?_
  refine lv_iconst (v := (2 : Int32)) hx hb dL_law_971 (by decide) ?_
  refine lv_iadd hx hb dL_law_972 ?_
  refine va_sld hx hb hX hbl hbA hS (sx_i (x := (2 : Int32)) rfl (j := 2) (by omega) hL) dL_law_973 ?_
  refine tp_ (y := xs (i + 2)) (congrArg xs (sx_c (x := (2 : Int32)) rfl (j := 2) (by omega) hL).symm) ?_
  refine mu_X ⟨hx, hb, hml, hown, hts⟩ (k_X7_mean l dC dI cI cJ aM (k 0) (k 1) (k 2) (k 3) (k 4) (k 5) (k 6) (k 7) (xs (i + 1)) (xs (i + 2)) ik tb fd pl lt fs sc g tri H.size _ e7) (cwV 2 hts gL_law_X7_mean rfl rfl rfl (by decide +kernel) ⟨Nat.le_of_ble_eq_true rfl, Nat.le_of_ble_eq_true rfl⟩) hE 38 rfl rfl rfl rfl hl.1 rfl (Nat.le_of_ble_eq_true rfl) dL_law_974 ⟨Nat.le_of_ble_eq_true rfl, Nat.le_of_ble_eq_true rfl⟩ hP (hD.fst rfl) hS hA [false, false, false, false, false, false, false, false, false, false, false, false, false, false, false, false, false, false, false, false, false, false, false, false, false, false, false, false, false, false, false, false, false, false, false, false, false, false, true, true, false, false, true] rfl (W1 := wd cI cJ aX aM f k h nmn nms nsn nss nen nes nbk nbs np ne nM nwr nwp kmn kms ksn kss ken kes kbk kbs kp ke kM kwr kwp tmn tms tsn tss ten tes tbk tbs tp te tM twr twp tx len nx cn cs so le it hi g kg wg tri1 tb1 ty fd pl lt fs sc so2 sz it2 ik) rfl (fun H locs hP hS => W.eq (g2 := F0 m 977 ls [.long r, .long r]) rfl ?_)
  refine W.lcmp hx hb dL_law_977 ?_
  refine lv_if_eq (tgt := 1390) hx hb dL_law_978 (by decide) (fun _ => ?_) (fun q => absurd ((lg_cmp_eq _ _).mpr rfl) q)
  exact kk h nmn nms nsn nss nen nes nbk nbs np ne nM nwr nwp kmn kms ksn kss ken kes kbk kbs kp ke kM kwr kwp tmn tms tsn tss ten tes tbk tbs tp te tM twr twp tx len nx cn cs so le it hi g kg wg tri1 tb1 ty fd pl lt fs sc so2 sz it2 ik _ RH RO1 RS RK RR RT hP _ hS
set_option maxHeartbeats 8000000 in
set_option maxRecDepth 100000 in
theorem lc_event {p : Program} {l : Launch} {e : Env} {s : State} {m : MethodId} {below : List Frame} {meth : Method} {c : Code} {dC : Nat → ClassId} {dI : Nat → Nat → Nat} {cI cJ : ClassId} {b L : Nat} {xs : Nat → Int32} {aX aM aS : Nat} {f k : Nat → Nat} (C : LC p l e s m meth c dC dI cI cJ b L xs aX aM aS f k) {i : Nat} (hi6 : i + 6 ≤ L) {H : Heap} {locs : List Loc} {ls : Array Slot} {h : Nat → Int32} {nmn : Nat → Int32} {nms : Int32} {nsn : Nat → Int32} {nss : Int32} {nen : Nat → Int32} {nes : Int32} {nbk : Nat → Int32} {nbs : Int32} {np : Int32} {ne : Int32} {nM : Int32} {nwr : Int32} {nwp : Int32} {kmn : Nat → Int32} {kms : Int32} {ksn : Nat → Int32} {kss : Int32} {ken : Nat → Int32} {kes : Int32} {kbk : Nat → Int32} {kbs : Int32} {kp : Int32} {ke : Int32} {kM : Int32} {kwr : Int32} {kwp : Int32} {tmn : Nat → Int32} {tms : Int32} {tsn : Nat → Int32} {tss : Int32} {ten : Nat → Int32} {tes : Int32} {tbk : Nat → Int32} {tbs : Int32} {tp : Int32} {te : Int32} {tM : Int32} {twr : Int32} {twp : Int32} {tx : Nat → Int32} {len : Int32} {nx : Int32} {cn : Nat → Int32} {cs : Int32} {so : Nat → Int32} {le : Nat → Int32} {it : Nat → Int64} {hi : Int32} {g : Nat → Int32} {kg : Nat → Int32} {wg : Nat → Int32} {tri : Nat → Int32} {tb : Int32} {ty : Nat → Int32} {fd : Int32} {pl : Int32} {lt : Int32} {fs : Int32} {sc : Int32} {so2 : Nat → Int32} {sz : Nat → Int32} {it2 : Nat → Int64} {ik : Int32} (RH : HT h) (RO : OK (tri, tb)) (RS : SX nmn nms nsn nss nen nes nbk nbs np ne nM nwr nwp g) (RK : KX hi kmn kms ksn kss ken kes kbk kbs kp ke kM kwr kwp ik kg) (RR : RC tx len ty fd) (RT : TP so le it so2 sz it2) (hP : va_P (dC, dI) vwCl (wd cI cJ aX aM f k h nmn nms nsn nss nen nes nbk nbs np ne nM nwr nwp kmn kms ksn kss ken kes kbk kbs kp ke kM kwr kwp tmn tms tsn tss ten tes tbk tbs tp te tM twr twp tx len nx cn cs so le it hi g kg wg tri tb ty fd pl lt fs sc so2 sz it2 ik) H) (hS : va_S (fun q : Nat => s.heap.size ≤ q) s.heap H locs) (hl : lv_has ls 4 [(0, .ref b), (1, .ref aX), (2, .ref aM), (3, .int (nI i))]) (kk : INVK dC dI cI cJ aX aM f k (fun H => ∀ (locs : List Loc), va_S (fun q : Nat => s.heap.size ≤ q) s.heap H locs → W p l e room_1 s m #[Value.ref b] below meth c H locs 600000 7302250 (lw_Z below #[Value.ref b] s) (F0 m 1390 ls []))) : W p l e room_1 s m #[Value.ref b] below meth c H locs 600000 7302250 (lw_Z below #[Value.ref b] s) (F0 m 983 ls []) := by
  obtain ⟨hx, hb, hml, hown, hts, hX, hbl, hL, hE, hD, hZ, hXS⟩ := C
  have hA : ∀ q : Nat, s.heap.size ≤ q → (fun q : Nat => s.heap.size ≤ q) q := fun _ h => h
  have hbA : ¬ (fun q : Nat => s.heap.size ≤ q) b := Nat.not_le.mpr hbl
  obtain ⟨r, nen1, nes1, g1, RS1, e6, e7⟩ := pm_event RS (xs (i + 1)) (xs (i + 2))
  refine lv_aload_n hx hb dL_law_983 rfl (lv_at hl 1 rfl) ?_
  refine lv_aload_n hx hb dL_law_984 rfl (lv_at hl 0 rfl) ?_
  refine lv_iload_n hx hb dL_law_985 rfl (lv_at hl 3 rfl) ?_
  refine lv_iconst (v := (1 : Int32)) hx hb dL_law_986 (by decide) ?_
  refine lv_iadd hx hb dL_law_987 ?_
  refine va_sld hx hb hX hbl hbA hS (sx_i (x := (1 : Int32)) rfl (j := 1) (by omega) hL) dL_law_988 ?_
  refine tp_ (y := xs (i + 1)) (congrArg xs (sx_c (x := (1 : Int32)) rfl (j := 1) (by omega) hL).symm) ?_
  refine lv_aload_n hx hb dL_law_989 rfl (lv_at hl 0 rfl) ?_
  refine lv_iload_n hx hb dL_law_990 rfl (lv_at hl 3 rfl) ?_
  refine lv_iconst (v := (2 : Int32)) hx hb dL_law_991 (by decide) ?_
  refine lv_iadd hx hb dL_law_992 ?_
  refine va_sld hx hb hX hbl hbA hS (sx_i (x := (2 : Int32)) rfl (j := 2) (by omega) hL) dL_law_993 ?_
  refine tp_ (y := xs (i + 2)) (congrArg xs (sx_c (x := (2 : Int32)) rfl (j := 2) (by omega) hL).symm) ?_
  refine mu_X ⟨hx, hb, hml, hown, hts⟩ (k_X6_event l dC dI cI cJ aX (f 0) (f 2) (f 11) (f 20) (f 29) (f 33) (f 3) (f 5) (f 7) (f 9) (f 8) (xs (i + 1)) (xs (i + 2)) hi np ne nM nwr nwp nes nen H.size _ e6) (cwV 2 hts gL_law_X6_event rfl rfl rfl (by decide +kernel) ⟨Nat.le_of_ble_eq_true rfl, Nat.le_of_ble_eq_true rfl⟩) hE 0 rfl rfl rfl rfl hl.1 rfl (Nat.le_of_ble_eq_true rfl) dL_law_994 ⟨Nat.le_of_ble_eq_true rfl, Nat.le_of_ble_eq_true rfl⟩ hP (hD.fst rfl) hS hA [true, false, false, true, false, false, false, false, true, true] rfl (W1 := wd cI cJ aX aM f k h nmn nms nsn nss nen1 nes1 nbk nbs np ne nM nwr nwp kmn kms ksn kss ken kes kbk kbs kp ke kM kwr kwp tmn tms tsn tss ten tes tbk tbs tp te tM twr twp tx len nx cn cs so le it hi g kg wg tri tb ty fd pl lt fs sc so2 sz it2 ik) rfl (fun H locs hP hS => W.eq (g2 := F0 m 997 ls [.int r]) rfl ?_)
  refine lv_aload_n hx hb dL_law_997 rfl (lv_at hl 2 rfl) ?_
  refine lv_aload_n hx hb dL_law_998 rfl (lv_at hl 0 rfl) ?_
  refine lv_iload_n hx hb dL_law_999 rfl (lv_at hl 3 rfl) ?_
  refine lv_iconst (v := (1 : Int32)) hx hb dL_law_1000 (by decide) ?_
  refine lv_iadd hx hb dL_law_1001 ?_
  refine va_sld hx hb hX hbl hbA hS (sx_i (x := (1 : Int32)) rfl (j := 1) (by omega) hL) dL_law_1002 ?_
  refine tp_ (y := xs (i + 1)) (congrArg xs (sx_c (x := (1 : Int32)) rfl (j := 1) (by omega) hL).symm) ?_
  refine lv_aload_n hx hb dL_law_1003 rfl (lv_at hl 0 rfl) ?_
  refine lv_iload_n hx hb dL_law_1004 rfl (lv_at hl 3 rfl) ?_
  refine lv_iconst (v := (2 : Int32)) hx hb dL_law_1005 (by decide) ?_
  refine lv_iadd hx hb dL_law_1006 ?_
  refine va_sld hx hb hX hbl hbA hS (sx_i (x := (2 : Int32)) rfl (j := 2) (by omega) hL) dL_law_1007 ?_
  refine tp_ (y := xs (i + 2)) (congrArg xs (sx_c (x := (2 : Int32)) rfl (j := 2) (by omega) hL).symm) ?_
  refine mu_X ⟨hx, hb, hml, hown, hts⟩ (k_X7_event l dC dI cI cJ aM (k 0) (k 1) (k 2) (k 3) (k 4) (k 5) (k 6) (k 7) (xs (i + 1)) (xs (i + 2)) ik tb fd pl lt fs sc g H.size _ e7) (cwV 2 hts gL_law_X7_event rfl rfl rfl (by decide +kernel) ⟨Nat.le_of_ble_eq_true rfl, Nat.le_of_ble_eq_true rfl⟩) hE 38 rfl rfl rfl rfl hl.1 rfl (Nat.le_of_ble_eq_true rfl) dL_law_1008 ⟨Nat.le_of_ble_eq_true rfl, Nat.le_of_ble_eq_true rfl⟩ hP (hD.fst rfl) hS hA [false, false, false, false, false, false, false, false, false, false, false, false, false, false, false, false, false, false, false, false, false, false, false, false, false, false, false, false, false, false, false, false, false, false, false, false, false, false, true, true] rfl (W1 := wd cI cJ aX aM f k h nmn nms nsn nss nen1 nes1 nbk nbs np ne nM nwr nwp kmn kms ksn kss ken kes kbk kbs kp ke kM kwr kwp tmn tms tsn tss ten tes tbk tbs tp te tM twr twp tx len nx cn cs so le it hi g1 kg wg tri tb ty fd pl lt fs sc so2 sz it2 ik) rfl (fun H locs hP hS => W.eq (g2 := F0 m 1011 ls [.int r, .int r]) rfl ?_)
  refine lv_icmp_eq (tgt := 1390) hx hb dL_law_1011 (by decide) (fun _ => ?_) (fun q => absurd rfl q)
  exact kk h nmn nms nsn nss nen1 nes1 nbk nbs np ne nM nwr nwp kmn kms ksn kss ken kes kbk kbs kp ke kM kwr kwp tmn tms tsn tss ten tes tbk tbs tp te tM twr twp tx len nx cn cs so le it hi g1 kg wg tri tb ty fd pl lt fs sc so2 sz it2 ik _ RH RO RS1 RK RR RT hP _ hS
set_option maxHeartbeats 8000000 in
set_option maxRecDepth 100000 in
theorem lc_after {p : Program} {l : Launch} {e : Env} {s : State} {m : MethodId} {below : List Frame} {meth : Method} {c : Code} {dC : Nat → ClassId} {dI : Nat → Nat → Nat} {cI cJ : ClassId} {b L : Nat} {xs : Nat → Int32} {aX aM aS : Nat} {f k : Nat → Nat} (C : LC p l e s m meth c dC dI cI cJ b L xs aX aM aS f k) {i : Nat} (hi6 : i + 6 ≤ L) {H : Heap} {locs : List Loc} {ls : Array Slot} {h : Nat → Int32} {nmn : Nat → Int32} {nms : Int32} {nsn : Nat → Int32} {nss : Int32} {nen : Nat → Int32} {nes : Int32} {nbk : Nat → Int32} {nbs : Int32} {np : Int32} {ne : Int32} {nM : Int32} {nwr : Int32} {nwp : Int32} {kmn : Nat → Int32} {kms : Int32} {ksn : Nat → Int32} {kss : Int32} {ken : Nat → Int32} {kes : Int32} {kbk : Nat → Int32} {kbs : Int32} {kp : Int32} {ke : Int32} {kM : Int32} {kwr : Int32} {kwp : Int32} {tmn : Nat → Int32} {tms : Int32} {tsn : Nat → Int32} {tss : Int32} {ten : Nat → Int32} {tes : Int32} {tbk : Nat → Int32} {tbs : Int32} {tp : Int32} {te : Int32} {tM : Int32} {twr : Int32} {twp : Int32} {tx : Nat → Int32} {len : Int32} {nx : Int32} {cn : Nat → Int32} {cs : Int32} {so : Nat → Int32} {le : Nat → Int32} {it : Nat → Int64} {hi : Int32} {g : Nat → Int32} {kg : Nat → Int32} {wg : Nat → Int32} {tri : Nat → Int32} {tb : Int32} {ty : Nat → Int32} {fd : Int32} {pl : Int32} {lt : Int32} {fs : Int32} {sc : Int32} {so2 : Nat → Int32} {sz : Nat → Int32} {it2 : Nat → Int64} {ik : Int32} (RH : HT h) (RO : OK (tri, tb)) (RS : SX nmn nms nsn nss nen nes nbk nbs np ne nM nwr nwp g) (RK : KX hi kmn kms ksn kss ken kes kbk kbs kp ke kM kwr kwp ik kg) (RR : RC tx len ty fd) (RT : TP so le it so2 sz it2) (hP : va_P (dC, dI) vwCl (wd cI cJ aX aM f k h nmn nms nsn nss nen nes nbk nbs np ne nM nwr nwp kmn kms ksn kss ken kes kbk kbs kp ke kM kwr kwp tmn tms tsn tss ten tes tbk tbs tp te tM twr twp tx len nx cn cs so le it hi g kg wg tri tb ty fd pl lt fs sc so2 sz it2 ik) H) (hS : va_S (fun q : Nat => s.heap.size ≤ q) s.heap H locs) (hl : lv_has ls 4 [(0, .ref b), (1, .ref aX), (2, .ref aM), (3, .int (nI i))]) (kk : INVK dC dI cI cJ aX aM f k (fun H => ∀ (locs : List Loc), va_S (fun q : Nat => s.heap.size ≤ q) s.heap H locs → W p l e room_1 s m #[Value.ref b] below meth c H locs 600000 7302250 (lw_Z below #[Value.ref b] s) (F0 m 1390 ls []))) : W p l e room_1 s m #[Value.ref b] below meth c H locs 600000 7302250 (lw_Z below #[Value.ref b] s) (F0 m 1016 ls []) := by
  obtain ⟨hx, hb, hml, hown, hts, hX, hbl, hL, hE, hD, hZ, hXS⟩ := C
  have hA : ∀ q : Nat, s.heap.size ≤ q → (fun q : Nat => s.heap.size ≤ q) q := fun _ h => h
  have hbA : ¬ (fun q : Nat => s.heap.size ≤ q) b := Nat.not_le.mpr hbl
  obtain ⟨r, tmn1, tms1, tsn1, tss1, ten1, tes1, tbk1, tbs1, tp1, te1, tM1, twr1, twp1, g1, wg1, ⟨tri1, tb1⟩, RS1, RO1, e6, e7⟩ := pm_after (t := (tri, tb)) (tmn := tmn) (tms := tms) (tsn := tsn) (tss := tss) (ten := ten) (tes := tes) (tbk := tbk) (tbs := tbs) (tp := tp) (te := te) (tM := tM) (twr := twr) (twp := twp) (was := wg) RS RH RO (xs (i + 1))
  refine lv_aload_n hx hb dL_law_1016 rfl (lv_at hl 1 rfl) ?_
  refine lv_aload_n hx hb dL_law_1017 rfl (lv_at hl 0 rfl) ?_
  refine lv_iload_n hx hb dL_law_1018 rfl (lv_at hl 3 rfl) ?_
  refine lv_iconst (v := (1 : Int32)) hx hb dL_law_1019 (by decide) ?_
  refine lv_iadd hx hb dL_law_1020 ?_
  refine va_sld hx hb hX hbl hbA hS (sx_i (x := (1 : Int32)) rfl (j := 1) (by omega) hL) dL_law_1021 ?_
  refine tp_ (y := xs (i + 1)) (congrArg xs (sx_c (x := (1 : Int32)) rfl (j := 1) (by omega) hL).symm) ?_
  refine mu_X ⟨hx, hb, hml, hown, hts⟩ (k_X6_after l dC dI cI cJ aX (f 0) (f 2) (f 11) (f 20) (f 29) (f 33) (f 1) (f 3) (f 5) (f 7) (f 9) (f 4) (f 6) (f 8) (f 10) (f 21) (f 23) (f 25) (f 27) (f 22) (f 24) (f 26) (f 28) (xs (i + 1)) hi h np ne nM nwr nwp nms nmn nss nsn nes nen nbs nbk tp te tM twr twp tms tmn tss tsn tes ten tbs tbk H.size _ e6) (cwV 1 hts gL_law_X6_after rfl rfl rfl (by decide +kernel) ⟨Nat.le_of_ble_eq_true rfl, Nat.le_of_ble_eq_true rfl⟩) hE 0 rfl rfl rfl rfl hl.1 rfl (Nat.le_of_ble_eq_true rfl) dL_law_1022 ⟨Nat.le_of_ble_eq_true rfl, Nat.le_of_ble_eq_true rfl⟩ hP (hD.fst rfl) hS hA [true, true, true, true, true, true, true, true, true, true, true, true, false, false, false, false, false, false, false, false, false, true, true, true, true, true, true, true, true, true] rfl (W1 := wd cI cJ aX aM f k h nmn nms nsn nss nen nes nbk nbs np ne nM nwr nwp kmn kms ksn kss ken kes kbk kbs kp ke kM kwr kwp tmn1 tms1 tsn1 tss1 ten1 tes1 tbk1 tbs1 tp1 te1 tM1 twr1 twp1 tx len nx cn cs so le it hi g kg wg tri tb ty fd pl lt fs sc so2 sz it2 ik) rfl (fun H locs hP hS => W.eq (g2 := F0 m 1025 ls [.int r]) rfl ?_)
  refine lv_aload_n hx hb dL_law_1025 rfl (lv_at hl 2 rfl) ?_
  refine lv_aload_n hx hb dL_law_1026 rfl (lv_at hl 0 rfl) ?_
  refine lv_iload_n hx hb dL_law_1027 rfl (lv_at hl 3 rfl) ?_
  refine lv_iconst (v := (1 : Int32)) hx hb dL_law_1028 (by decide) ?_
  refine lv_iadd hx hb dL_law_1029 ?_
  refine va_sld hx hb hX hbl hbA hS (sx_i (x := (1 : Int32)) rfl (j := 1) (by omega) hL) dL_law_1030 ?_
  refine tp_ (y := xs (i + 1)) (congrArg xs (sx_c (x := (1 : Int32)) rfl (j := 1) (by omega) hL).symm) ?_
  refine mu_X ⟨hx, hb, hml, hown, hts⟩ (k_X7_after l dC dI cI cJ aM (k 0) (k 1) (k 2) (k 3) (k 4) (k 5) (k 6) (k 7) (xs (i + 1)) ik tb fd pl lt fs sc g wg tri H.size _ e7) (cwV 1 hts gL_law_X7_after rfl rfl rfl (by decide +kernel) ⟨Nat.le_of_ble_eq_true rfl, Nat.le_of_ble_eq_true rfl⟩) hE 38 rfl rfl rfl rfl hl.1 rfl (Nat.le_of_ble_eq_true rfl) dL_law_1031 ⟨Nat.le_of_ble_eq_true rfl, Nat.le_of_ble_eq_true rfl⟩ hP (hD.fst rfl) hS hA [false, false, false, false, false, false, false, false, false, false, false, false, false, false, false, false, false, false, false, false, false, false, false, false, false, false, false, false, false, false, false, false, false, false, false, false, false, false, true, true, false, true, true] rfl (W1 := wd cI cJ aX aM f k h nmn nms nsn nss nen nes nbk nbs np ne nM nwr nwp kmn kms ksn kss ken kes kbk kbs kp ke kM kwr kwp tmn1 tms1 tsn1 tss1 ten1 tes1 tbk1 tbs1 tp1 te1 tM1 twr1 twp1 tx len nx cn cs so le it hi g1 kg wg1 tri1 tb1 ty fd pl lt fs sc so2 sz it2 ik) rfl (fun H locs hP hS => W.eq (g2 := F0 m 1034 ls [.int r, .int r]) rfl ?_)
  refine lv_icmp_eq (tgt := 1390) hx hb dL_law_1034 (by decide) (fun _ => ?_) (fun q => absurd rfl q)
  exact kk h nmn nms nsn nss nen nes nbk nbs np ne nM nwr nwp kmn kms ksn kss ken kes kbk kbs kp ke kM kwr kwp tmn1 tms1 tsn1 tss1 ten1 tes1 tbk1 tbs1 tp1 te1 tM1 twr1 twp1 tx len nx cn cs so le it hi g1 kg wg1 tri1 tb1 ty fd pl lt fs sc so2 sz it2 ik _ RH RO1 RS1 RK RR RT hP _ hS
set_option maxHeartbeats 8000000 in
set_option maxRecDepth 100000 in
theorem lc_book {p : Program} {l : Launch} {e : Env} {s : State} {m : MethodId} {below : List Frame} {meth : Method} {c : Code} {dC : Nat → ClassId} {dI : Nat → Nat → Nat} {cI cJ : ClassId} {b L : Nat} {xs : Nat → Int32} {aX aM aS : Nat} {f k : Nat → Nat} (C : LC p l e s m meth c dC dI cI cJ b L xs aX aM aS f k) {i : Nat} (hi6 : i + 6 ≤ L) {H : Heap} {locs : List Loc} {ls : Array Slot} {h : Nat → Int32} {nmn : Nat → Int32} {nms : Int32} {nsn : Nat → Int32} {nss : Int32} {nen : Nat → Int32} {nes : Int32} {nbk : Nat → Int32} {nbs : Int32} {np : Int32} {ne : Int32} {nM : Int32} {nwr : Int32} {nwp : Int32} {kmn : Nat → Int32} {kms : Int32} {ksn : Nat → Int32} {kss : Int32} {ken : Nat → Int32} {kes : Int32} {kbk : Nat → Int32} {kbs : Int32} {kp : Int32} {ke : Int32} {kM : Int32} {kwr : Int32} {kwp : Int32} {tmn : Nat → Int32} {tms : Int32} {tsn : Nat → Int32} {tss : Int32} {ten : Nat → Int32} {tes : Int32} {tbk : Nat → Int32} {tbs : Int32} {tp : Int32} {te : Int32} {tM : Int32} {twr : Int32} {twp : Int32} {tx : Nat → Int32} {len : Int32} {nx : Int32} {cn : Nat → Int32} {cs : Int32} {so : Nat → Int32} {le : Nat → Int32} {it : Nat → Int64} {hi : Int32} {g : Nat → Int32} {kg : Nat → Int32} {wg : Nat → Int32} {tri : Nat → Int32} {tb : Int32} {ty : Nat → Int32} {fd : Int32} {pl : Int32} {lt : Int32} {fs : Int32} {sc : Int32} {so2 : Nat → Int32} {sz : Nat → Int32} {it2 : Nat → Int64} {ik : Int32} (RH : HT h) (RO : OK (tri, tb)) (RS : SX nmn nms nsn nss nen nes nbk nbs np ne nM nwr nwp g) (RK : KX hi kmn kms ksn kss ken kes kbk kbs kp ke kM kwr kwp ik kg) (RR : RC tx len ty fd) (RT : TP so le it so2 sz it2) (hP : va_P (dC, dI) vwCl (wd cI cJ aX aM f k h nmn nms nsn nss nen nes nbk nbs np ne nM nwr nwp kmn kms ksn kss ken kes kbk kbs kp ke kM kwr kwp tmn tms tsn tss ten tes tbk tbs tp te tM twr twp tx len nx cn cs so le it hi g kg wg tri tb ty fd pl lt fs sc so2 sz it2 ik) H) (hS : va_S (fun q : Nat => s.heap.size ≤ q) s.heap H locs) (hl : lv_has ls 4 [(0, .ref b), (1, .ref aX), (2, .ref aM), (3, .int (nI i))]) (kk : INVK dC dI cI cJ aX aM f k (fun H => ∀ (locs : List Loc), va_S (fun q : Nat => s.heap.size ≤ q) s.heap H locs → W p l e room_1 s m #[Value.ref b] below meth c H locs 600000 7302250 (lw_Z below #[Value.ref b] s) (F0 m 1390 ls []))) : W p l e room_1 s m #[Value.ref b] below meth c H locs 600000 7302250 (lw_Z below #[Value.ref b] s) (F0 m 1039 ls []) := by
  obtain ⟨hx, hb, hml, hown, hts, hX, hbl, hL, hE, hD, hZ, hXS⟩ := C
  have hA : ∀ q : Nat, s.heap.size ≤ q → (fun q : Nat => s.heap.size ≤ q) q := fun _ h => h
  have hbA : ¬ (fun q : Nat => s.heap.size ≤ q) b := Nat.not_le.mpr hbl
  obtain ⟨r, nbk1, nbs1, g1, RS1, e6, e7⟩ := pm_book RS (xs (i + 1)) (xs (i + 2))
  refine lv_aload_n hx hb dL_law_1039 rfl (lv_at hl 1 rfl) ?_
  refine lv_aload_n hx hb dL_law_1040 rfl (lv_at hl 0 rfl) ?_
  refine lv_iload_n hx hb dL_law_1041 rfl (lv_at hl 3 rfl) ?_
  refine lv_iconst (v := (1 : Int32)) hx hb dL_law_1042 (by decide) ?_
  refine lv_iadd hx hb dL_law_1043 ?_
  refine va_sld hx hb hX hbl hbA hS (sx_i (x := (1 : Int32)) rfl (j := 1) (by omega) hL) dL_law_1044 ?_
  refine tp_ (y := xs (i + 1)) (congrArg xs (sx_c (x := (1 : Int32)) rfl (j := 1) (by omega) hL).symm) ?_
  refine lv_aload_n hx hb dL_law_1045 rfl (lv_at hl 0 rfl) ?_
  refine lv_iload_n hx hb dL_law_1046 rfl (lv_at hl 3 rfl) ?_
  refine lv_iconst (v := (2 : Int32)) hx hb dL_law_1047 (by decide) ?_
  refine lv_iadd hx hb dL_law_1048 ?_
  refine va_sld hx hb hX hbl hbA hS (sx_i (x := (2 : Int32)) rfl (j := 2) (by omega) hL) dL_law_1049 ?_
  refine tp_ (y := xs (i + 2)) (congrArg xs (sx_c (x := (2 : Int32)) rfl (j := 2) (by omega) hL).symm) ?_
  refine mu_X ⟨hx, hb, hml, hown, hts⟩ (k_X6_book l dC dI cI cJ aX (f 0) (f 2) (f 11) (f 20) (f 29) (f 33) (f 3) (f 5) (f 7) (f 9) (f 10) (xs (i + 1)) (xs (i + 2)) hi np ne nM nwr nwp nbs nbk H.size _ e6) (cwV 2 hts gL_law_X6_book rfl rfl rfl (by decide +kernel) ⟨Nat.le_of_ble_eq_true rfl, Nat.le_of_ble_eq_true rfl⟩) hE 0 rfl rfl rfl rfl hl.1 rfl (Nat.le_of_ble_eq_true rfl) dL_law_1050 ⟨Nat.le_of_ble_eq_true rfl, Nat.le_of_ble_eq_true rfl⟩ hP (hD.fst rfl) hS hA [true, false, false, true, false, false, false, false, false, false, true, true] rfl (W1 := wd cI cJ aX aM f k h nmn nms nsn nss nen nes nbk1 nbs1 np ne nM nwr nwp kmn kms ksn kss ken kes kbk kbs kp ke kM kwr kwp tmn tms tsn tss ten tes tbk tbs tp te tM twr twp tx len nx cn cs so le it hi g kg wg tri tb ty fd pl lt fs sc so2 sz it2 ik) rfl (fun H locs hP hS => W.eq (g2 := F0 m 1053 ls [.int r]) rfl ?_)
  refine lv_aload_n hx hb dL_law_1053 rfl (lv_at hl 2 rfl) ?_
  refine lv_aload_n hx hb dL_law_1054 rfl (lv_at hl 0 rfl) ?_
  refine lv_iload_n hx hb dL_law_1055 rfl (lv_at hl 3 rfl) ?_
  refine lv_iconst (v := (1 : Int32)) hx hb dL_law_1056 (by decide) ?_
  refine lv_iadd hx hb dL_law_1057 ?_
  refine va_sld hx hb hX hbl hbA hS (sx_i (x := (1 : Int32)) rfl (j := 1) (by omega) hL) dL_law_1058 ?_
  refine tp_ (y := xs (i + 1)) (congrArg xs (sx_c (x := (1 : Int32)) rfl (j := 1) (by omega) hL).symm) ?_
  refine lv_aload_n hx hb dL_law_1059 rfl (lv_at hl 0 rfl) ?_
  refine lv_iload_n hx hb dL_law_1060 rfl (lv_at hl 3 rfl) ?_
  refine lv_iconst (v := (2 : Int32)) hx hb dL_law_1061 (by decide) ?_
  refine lv_iadd hx hb dL_law_1062 ?_
  refine va_sld hx hb hX hbl hbA hS (sx_i (x := (2 : Int32)) rfl (j := 2) (by omega) hL) dL_law_1063 ?_
  refine tp_ (y := xs (i + 2)) (congrArg xs (sx_c (x := (2 : Int32)) rfl (j := 2) (by omega) hL).symm) ?_
  refine mu_X ⟨hx, hb, hml, hown, hts⟩ (k_X7_book l dC dI cI cJ aM (k 0) (k 1) (k 2) (k 3) (k 4) (k 5) (k 6) (k 7) (xs (i + 1)) (xs (i + 2)) ik tb fd pl lt fs sc g H.size _ e7) (cwV 2 hts gL_law_X7_book rfl rfl rfl (by decide +kernel) ⟨Nat.le_of_ble_eq_true rfl, Nat.le_of_ble_eq_true rfl⟩) hE 38 rfl rfl rfl rfl hl.1 rfl (Nat.le_of_ble_eq_true rfl) dL_law_1064 ⟨Nat.le_of_ble_eq_true rfl, Nat.le_of_ble_eq_true rfl⟩ hP (hD.fst rfl) hS hA [false, false, false, false, false, false, false, false, false, false, false, false, false, false, false, false, false, false, false, false, false, false, false, false, false, false, false, false, false, false, false, false, false, false, false, false, false, false, true, true] rfl (W1 := wd cI cJ aX aM f k h nmn nms nsn nss nen nes nbk1 nbs1 np ne nM nwr nwp kmn kms ksn kss ken kes kbk kbs kp ke kM kwr kwp tmn tms tsn tss ten tes tbk tbs tp te tM twr twp tx len nx cn cs so le it hi g1 kg wg tri tb ty fd pl lt fs sc so2 sz it2 ik) rfl (fun H locs hP hS => W.eq (g2 := F0 m 1067 ls [.int r, .int r]) rfl ?_)
  refine lv_icmp_eq (tgt := 1390) hx hb dL_law_1067 (by decide) (fun _ => ?_) (fun q => absurd rfl q)
  exact kk h nmn nms nsn nss nen nes nbk1 nbs1 np ne nM nwr nwp kmn kms ksn kss ken kes kbk kbs kp ke kM kwr kwp tmn tms tsn tss ten tes tbk tbs tp te tM twr twp tx len nx cn cs so le it hi g1 kg wg tri tb ty fd pl lt fs sc so2 sz it2 ik _ RH RO RS1 RK RR RT hP _ hS
set_option maxHeartbeats 8000000 in
set_option maxRecDepth 100000 in
theorem lc_looked {p : Program} {l : Launch} {e : Env} {s : State} {m : MethodId} {below : List Frame} {meth : Method} {c : Code} {dC : Nat → ClassId} {dI : Nat → Nat → Nat} {cI cJ : ClassId} {b L : Nat} {xs : Nat → Int32} {aX aM aS : Nat} {f k : Nat → Nat} (C : LC p l e s m meth c dC dI cI cJ b L xs aX aM aS f k) {i : Nat} (hi6 : i + 6 ≤ L) {H : Heap} {locs : List Loc} {ls : Array Slot} {h : Nat → Int32} {nmn : Nat → Int32} {nms : Int32} {nsn : Nat → Int32} {nss : Int32} {nen : Nat → Int32} {nes : Int32} {nbk : Nat → Int32} {nbs : Int32} {np : Int32} {ne : Int32} {nM : Int32} {nwr : Int32} {nwp : Int32} {kmn : Nat → Int32} {kms : Int32} {ksn : Nat → Int32} {kss : Int32} {ken : Nat → Int32} {kes : Int32} {kbk : Nat → Int32} {kbs : Int32} {kp : Int32} {ke : Int32} {kM : Int32} {kwr : Int32} {kwp : Int32} {tmn : Nat → Int32} {tms : Int32} {tsn : Nat → Int32} {tss : Int32} {ten : Nat → Int32} {tes : Int32} {tbk : Nat → Int32} {tbs : Int32} {tp : Int32} {te : Int32} {tM : Int32} {twr : Int32} {twp : Int32} {tx : Nat → Int32} {len : Int32} {nx : Int32} {cn : Nat → Int32} {cs : Int32} {so : Nat → Int32} {le : Nat → Int32} {it : Nat → Int64} {hi : Int32} {g : Nat → Int32} {kg : Nat → Int32} {wg : Nat → Int32} {tri : Nat → Int32} {tb : Int32} {ty : Nat → Int32} {fd : Int32} {pl : Int32} {lt : Int32} {fs : Int32} {sc : Int32} {so2 : Nat → Int32} {sz : Nat → Int32} {it2 : Nat → Int64} {ik : Int32} (RH : HT h) (RO : OK (tri, tb)) (RS : SX nmn nms nsn nss nen nes nbk nbs np ne nM nwr nwp g) (RK : KX hi kmn kms ksn kss ken kes kbk kbs kp ke kM kwr kwp ik kg) (RR : RC tx len ty fd) (RT : TP so le it so2 sz it2) (hP : va_P (dC, dI) vwCl (wd cI cJ aX aM f k h nmn nms nsn nss nen nes nbk nbs np ne nM nwr nwp kmn kms ksn kss ken kes kbk kbs kp ke kM kwr kwp tmn tms tsn tss ten tes tbk tbs tp te tM twr twp tx len nx cn cs so le it hi g kg wg tri tb ty fd pl lt fs sc so2 sz it2 ik) H) (hS : va_S (fun q : Nat => s.heap.size ≤ q) s.heap H locs) (hl : lv_has ls 4 [(0, .ref b), (1, .ref aX), (2, .ref aM), (3, .int (nI i))]) (kk : INVK dC dI cI cJ aX aM f k (fun H => ∀ (locs : List Loc), va_S (fun q : Nat => s.heap.size ≤ q) s.heap H locs → W p l e room_1 s m #[Value.ref b] below meth c H locs 600000 7302250 (lw_Z below #[Value.ref b] s) (F0 m 1390 ls []))) : W p l e room_1 s m #[Value.ref b] below meth c H locs 600000 7302250 (lw_Z below #[Value.ref b] s) (F0 m 1072 ls []) := by
  obtain ⟨hx, hb, hml, hown, hts, hX, hbl, hL, hE, hD, hZ, hXS⟩ := C
  have hA : ∀ q : Nat, s.heap.size ≤ q → (fun q : Nat => s.heap.size ≤ q) q := fun _ h => h
  have hbA : ¬ (fun q : Nat => s.heap.size ≤ q) b := Nat.not_le.mpr hbl
  obtain ⟨r, ⟨tri1, tb1⟩, RO1, e6, e7⟩ := pm_looked (t := (tri, tb)) RS RH RO
  refine lv_aload_n hx hb dL_law_1072 rfl (lv_at hl 1 rfl) ?_
  refine ro_V ⟨hx, hb, hml, hown, hts⟩ (k_X6_looked l dC dI cI cJ aX (f 0) (f 2) (f 11) (f 20) (f 29) (f 33) (f 1) (f 3) (f 5) (f 7) (f 9) (f 10) hi h np ne nM nwr nwp nbs nbk _ e6) (cwV 0 hts gL_law_X6_looked rfl rfl rfl (by decide +kernel) ⟨Nat.le_of_ble_eq_true rfl, Nat.le_of_ble_eq_true rfl⟩) hE hP 0 rfl rfl rfl (hP.sub [0, 1, 2, 3, 10, 11] rfl) rfl hl.1 rfl (Nat.le_of_ble_eq_true rfl) dL_law_1073 ⟨Nat.le_of_ble_eq_true rfl, Nat.le_of_ble_eq_true rfl⟩ ?_
  refine lv_aload_n hx hb dL_law_1076 rfl (lv_at hl 2 rfl) ?_
  refine mu_X ⟨hx, hb, hml, hown, hts⟩ (k_X7_looked l dC dI cI cJ aM (k 0) (k 1) (k 2) (k 3) (k 4) (k 5) (k 6) (k 7) ik tb fd pl lt fs sc g tri H.size _ e7) (cwV 0 hts gL_law_X7_looked rfl rfl rfl (by decide +kernel) ⟨Nat.le_of_ble_eq_true rfl, Nat.le_of_ble_eq_true rfl⟩) hE 38 rfl rfl rfl rfl hl.1 rfl (Nat.le_of_ble_eq_true rfl) dL_law_1077 ⟨Nat.le_of_ble_eq_true rfl, Nat.le_of_ble_eq_true rfl⟩ hP (hD.fst rfl) hS hA [false, false, false, false, false, false, false, false, false, false, false, false, false, false, false, false, false, false, false, false, false, false, false, false, false, false, false, false, false, false, false, false, false, false, false, false, false, false, true, true, false, false, true] rfl (W1 := wd cI cJ aX aM f k h nmn nms nsn nss nen nes nbk nbs np ne nM nwr nwp kmn kms ksn kss ken kes kbk kbs kp ke kM kwr kwp tmn tms tsn tss ten tes tbk tbs tp te tM twr twp tx len nx cn cs so le it hi g kg wg tri1 tb1 ty fd pl lt fs sc so2 sz it2 ik) rfl (fun H locs hP hS => W.eq (g2 := F0 m 1080 ls [.int r, .int r]) rfl ?_)
  refine lv_icmp_eq (tgt := 1390) hx hb dL_law_1080 (by decide) (fun _ => ?_) (fun q => absurd rfl q)
  exact kk h nmn nms nsn nss nen nes nbk nbs np ne nM nwr nwp kmn kms ksn kss ken kes kbk kbs kp ke kM kwr kwp tmn tms tsn tss ten tes tbk tbs tp te tM twr twp tx len nx cn cs so le it hi g kg wg tri1 tb1 ty fd pl lt fs sc so2 sz it2 ik _ RH RO1 RS RK RR RT hP _ hS
set_option maxHeartbeats 8000000 in
set_option maxRecDepth 100000 in
theorem lc_judge {p : Program} {l : Launch} {e : Env} {s : State} {m : MethodId} {below : List Frame} {meth : Method} {c : Code} {dC : Nat → ClassId} {dI : Nat → Nat → Nat} {cI cJ : ClassId} {b L : Nat} {xs : Nat → Int32} {aX aM aS : Nat} {f k : Nat → Nat} (C : LC p l e s m meth c dC dI cI cJ b L xs aX aM aS f k) {i : Nat} (hi6 : i + 6 ≤ L) {H : Heap} {locs : List Loc} {ls : Array Slot} {h : Nat → Int32} {nmn : Nat → Int32} {nms : Int32} {nsn : Nat → Int32} {nss : Int32} {nen : Nat → Int32} {nes : Int32} {nbk : Nat → Int32} {nbs : Int32} {np : Int32} {ne : Int32} {nM : Int32} {nwr : Int32} {nwp : Int32} {kmn : Nat → Int32} {kms : Int32} {ksn : Nat → Int32} {kss : Int32} {ken : Nat → Int32} {kes : Int32} {kbk : Nat → Int32} {kbs : Int32} {kp : Int32} {ke : Int32} {kM : Int32} {kwr : Int32} {kwp : Int32} {tmn : Nat → Int32} {tms : Int32} {tsn : Nat → Int32} {tss : Int32} {ten : Nat → Int32} {tes : Int32} {tbk : Nat → Int32} {tbs : Int32} {tp : Int32} {te : Int32} {tM : Int32} {twr : Int32} {twp : Int32} {tx : Nat → Int32} {len : Int32} {nx : Int32} {cn : Nat → Int32} {cs : Int32} {so : Nat → Int32} {le : Nat → Int32} {it : Nat → Int64} {hi : Int32} {g : Nat → Int32} {kg : Nat → Int32} {wg : Nat → Int32} {tri : Nat → Int32} {tb : Int32} {ty : Nat → Int32} {fd : Int32} {pl : Int32} {lt : Int32} {fs : Int32} {sc : Int32} {so2 : Nat → Int32} {sz : Nat → Int32} {it2 : Nat → Int64} {ik : Int32} (RH : HT h) (RO : OK (tri, tb)) (RS : SX nmn nms nsn nss nen nes nbk nbs np ne nM nwr nwp g) (RK : KX hi kmn kms ksn kss ken kes kbk kbs kp ke kM kwr kwp ik kg) (RR : RC tx len ty fd) (RT : TP so le it so2 sz it2) (hP : va_P (dC, dI) vwCl (wd cI cJ aX aM f k h nmn nms nsn nss nen nes nbk nbs np ne nM nwr nwp kmn kms ksn kss ken kes kbk kbs kp ke kM kwr kwp tmn tms tsn tss ten tes tbk tbs tp te tM twr twp tx len nx cn cs so le it hi g kg wg tri tb ty fd pl lt fs sc so2 sz it2 ik) H) (hS : va_S (fun q : Nat => s.heap.size ≤ q) s.heap H locs) (hl : lv_has ls 4 [(0, .ref b), (1, .ref aX), (2, .ref aM), (3, .int (nI i))]) (kk : INVK dC dI cI cJ aX aM f k (fun H => ∀ (locs : List Loc), va_S (fun q : Nat => s.heap.size ≤ q) s.heap H locs → W p l e room_1 s m #[Value.ref b] below meth c H locs 600000 7302250 (lw_Z below #[Value.ref b] s) (F0 m 1390 ls []))) : W p l e room_1 s m #[Value.ref b] below meth c H locs 600000 7302250 (lw_Z below #[Value.ref b] s) (F0 m 1085 ls []) := by
  obtain ⟨hx, hb, hml, hown, hts, hX, hbl, hL, hE, hD, hZ, hXS⟩ := C
  have hA : ∀ q : Nat, s.heap.size ≤ q → (fun q : Nat => s.heap.size ≤ q) q := fun _ h => h
  have hbA : ¬ (fun q : Nat => s.heap.size ≤ q) b := Nat.not_le.mpr hbl
  obtain ⟨r, ⟨tri1, tb1⟩, RO1, e6, e7⟩ := pm_judge (t := (tri, tb)) RS RH RO RT (xs (i + 1)) (xs (i + 2)) (xs (i + 3))
  refine lv_aload_n hx hb dL_law_1085 rfl (lv_at hl 1 rfl) ?_
  refine lv_aload_n hx hb dL_law_1086 rfl (lv_at hl 0 rfl) ?_
  refine lv_iload_n hx hb dL_law_1087 rfl (lv_at hl 3 rfl) ?_
  refine lv_iconst (v := (1 : Int32)) hx hb dL_law_1088 (by decide) ?_
  refine lv_iadd hx hb dL_law_1089 ?_
  refine va_sld hx hb hX hbl hbA hS (sx_i (x := (1 : Int32)) rfl (j := 1) (by omega) hL) dL_law_1090 ?_
  refine tp_ (y := xs (i + 1)) (congrArg xs (sx_c (x := (1 : Int32)) rfl (j := 1) (by omega) hL).symm) ?_
  refine lv_aload_n hx hb dL_law_1091 rfl (lv_at hl 0 rfl) ?_
  refine lv_iload_n hx hb dL_law_1092 rfl (lv_at hl 3 rfl) ?_
  refine lv_iconst (v := (2 : Int32)) hx hb dL_law_1093 (by decide) ?_
  refine lv_iadd hx hb dL_law_1094 ?_
  refine va_sld hx hb hX hbl hbA hS (sx_i (x := (2 : Int32)) rfl (j := 2) (by omega) hL) dL_law_1095 ?_
  refine tp_ (y := xs (i + 2)) (congrArg xs (sx_c (x := (2 : Int32)) rfl (j := 2) (by omega) hL).symm) ?_
  refine lv_aload_n hx hb dL_law_1096 rfl (lv_at hl 0 rfl) ?_
  refine lv_iload_n hx hb dL_law_1097 rfl (lv_at hl 3 rfl) ?_
  refine lv_iconst (v := (3 : Int32)) hx hb dL_law_1098 (by decide) ?_
  refine lv_iadd hx hb dL_law_1099 ?_
  refine va_sld hx hb hX hbl hbA hS (sx_i (x := (3 : Int32)) rfl (j := 3) (by omega) hL) dL_law_1100 ?_
  refine tp_ (y := xs (i + 3)) (congrArg xs (sx_c (x := (3 : Int32)) rfl (j := 3) (by omega) hL).symm) ?_
  refine ro_V ⟨hx, hb, hml, hown, hts⟩ (k_X6_judge l dC dI cI cJ aX (f 0) (f 2) (f 11) (f 20) (f 29) (f 33) (f 1) (f 3) (f 5) (f 7) (f 9) (f 34) (f 35) (f 36) (xs (i + 1)) (xs (i + 2)) (xs (i + 3)) hi h np ne nM nwr nwp so le it _ e6) (cwV 3 hts gL_law_X6_judge rfl rfl rfl (by decide +kernel) ⟨Nat.le_of_ble_eq_true rfl, Nat.le_of_ble_eq_true rfl⟩) hE hP 0 rfl rfl rfl (hP.sub [0, 1, 2, 3, 34, 35, 36, 37] rfl) rfl hl.1 rfl (Nat.le_of_ble_eq_true rfl) dL_law_1101 ⟨Nat.le_of_ble_eq_true rfl, Nat.le_of_ble_eq_true rfl⟩ ?_
  refine lv_aload_n hx hb dL_law_1104 rfl (lv_at hl 2 rfl) ?_
  refine lv_aload_n hx hb dL_law_1105 rfl (lv_at hl 0 rfl) ?_
  refine lv_iload_n hx hb dL_law_1106 rfl (lv_at hl 3 rfl) ?_
  refine lv_iconst (v := (1 : Int32)) hx hb dL_law_1107 (by decide) ?_
  refine lv_iadd hx hb dL_law_1108 ?_
  refine va_sld hx hb hX hbl hbA hS (sx_i (x := (1 : Int32)) rfl (j := 1) (by omega) hL) dL_law_1109 ?_
  refine tp_ (y := xs (i + 1)) (congrArg xs (sx_c (x := (1 : Int32)) rfl (j := 1) (by omega) hL).symm) ?_
  refine lv_aload_n hx hb dL_law_1110 rfl (lv_at hl 0 rfl) ?_
  refine lv_iload_n hx hb dL_law_1111 rfl (lv_at hl 3 rfl) ?_
  refine lv_iconst (v := (2 : Int32)) hx hb dL_law_1112 (by decide) ?_
  refine lv_iadd hx hb dL_law_1113 ?_
  refine va_sld hx hb hX hbl hbA hS (sx_i (x := (2 : Int32)) rfl (j := 2) (by omega) hL) dL_law_1114 ?_
  refine tp_ (y := xs (i + 2)) (congrArg xs (sx_c (x := (2 : Int32)) rfl (j := 2) (by omega) hL).symm) ?_
  refine lv_aload_n hx hb dL_law_1115 rfl (lv_at hl 0 rfl) ?_
  refine lv_iload_n hx hb dL_law_1116 rfl (lv_at hl 3 rfl) ?_
  refine lv_iconst (v := (3 : Int32)) hx hb dL_law_1117 (by decide) ?_
  refine lv_iadd hx hb dL_law_1118 ?_
  refine va_sld hx hb hX hbl hbA hS (sx_i (x := (3 : Int32)) rfl (j := 3) (by omega) hL) dL_law_1119 ?_
  refine tp_ (y := xs (i + 3)) (congrArg xs (sx_c (x := (3 : Int32)) rfl (j := 3) (by omega) hL).symm) ?_
  refine mu_X ⟨hx, hb, hml, hown, hts⟩ (k_X7_judge l dC dI cI cJ aM (k 0) (k 1) (k 2) (k 3) (k 4) (k 5) (k 6) (k 7) (xs (i + 1)) (xs (i + 2)) (xs (i + 3)) ik tb fd pl lt fs sc g tri so2 sz it2 H.size _ e7) (cwV 3 hts gL_law_X7_judge rfl rfl rfl (by decide +kernel) ⟨Nat.le_of_ble_eq_true rfl, Nat.le_of_ble_eq_true rfl⟩) hE 38 rfl rfl rfl rfl hl.1 rfl (Nat.le_of_ble_eq_true rfl) dL_law_1120 ⟨Nat.le_of_ble_eq_true rfl, Nat.le_of_ble_eq_true rfl⟩ hP (hD.fst rfl) hS hA [false, false, false, false, false, false, false, false, false, false, false, false, false, false, false, false, false, false, false, false, false, false, false, false, false, false, false, false, false, false, false, false, false, false, false, false, false, false, true, true, false, false, true, false, true, true, true] rfl (W1 := wd cI cJ aX aM f k h nmn nms nsn nss nen nes nbk nbs np ne nM nwr nwp kmn kms ksn kss ken kes kbk kbs kp ke kM kwr kwp tmn tms tsn tss ten tes tbk tbs tp te tM twr twp tx len nx cn cs so le it hi g kg wg tri1 tb1 ty fd pl lt fs sc so2 sz it2 ik) rfl (fun H locs hP hS => W.eq (g2 := F0 m 1123 ls [.int r, .int r]) rfl ?_)
  refine lv_icmp_eq (tgt := 1390) hx hb dL_law_1123 (by decide) (fun _ => ?_) (fun q => absurd rfl q)
  exact kk h nmn nms nsn nss nen nes nbk nbs np ne nM nwr nwp kmn kms ksn kss ken kes kbk kbs kp ke kM kwr kwp tmn tms tsn tss ten tes tbk tbs tp te tM twr twp tx len nx cn cs so le it hi g kg wg tri1 tb1 ty fd pl lt fs sc so2 sz it2 ik _ RH RO1 RS RK RR RT hP _ hS
