/-! the law's cases, by program -/
set_option maxHeartbeats 8000000 in
set_option maxRecDepth 100000 in
theorem lc_rule {p : Program} {l : Launch} {e : Env} {s : State} {m : MethodId} {below : List Frame} {meth : Method} {c : Code} {dC : Nat → ClassId} {dI : Nat → Nat → Nat} {cI cJ : ClassId} {b L : Nat} {xs : Nat → Int32} {aX aM aS : Nat} {f k : Nat → Nat} (C : LC p l e s m meth c dC dI cI cJ b L xs aX aM aS f k) {i : Nat} (hi6 : i + 6 ≤ L) {H : Heap} {locs : List Loc} {ls : Array Slot} {h : Nat → Int32} {nmn : Nat → Int32} {nms : Int32} {nsn : Nat → Int32} {nss : Int32} {nen : Nat → Int32} {nes : Int32} {nbk : Nat → Int32} {nbs : Int32} {np : Int32} {ne : Int32} {nM : Int32} {nwr : Int32} {nwp : Int32} {kmn : Nat → Int32} {kms : Int32} {ksn : Nat → Int32} {kss : Int32} {ken : Nat → Int32} {kes : Int32} {kbk : Nat → Int32} {kbs : Int32} {kp : Int32} {ke : Int32} {kM : Int32} {kwr : Int32} {kwp : Int32} {tmn : Nat → Int32} {tms : Int32} {tsn : Nat → Int32} {tss : Int32} {ten : Nat → Int32} {tes : Int32} {tbk : Nat → Int32} {tbs : Int32} {tp : Int32} {te : Int32} {tM : Int32} {twr : Int32} {twp : Int32} {tx : Nat → Int32} {len : Int32} {nx : Int32} {cn : Nat → Int32} {cs : Int32} {so : Nat → Int32} {le : Nat → Int32} {it : Nat → Int64} {hi : Int32} {g : Nat → Int32} {kg : Nat → Int32} {wg : Nat → Int32} {tri : Nat → Int32} {tb : Int32} {ty : Nat → Int32} {fd : Int32} {pl : Int32} {lt : Int32} {fs : Int32} {sc : Int32} {so2 : Nat → Int32} {sz : Nat → Int32} {it2 : Nat → Int64} {ik : Int32} (RH : HT h) (RO : OK (tri, tb)) (RS : SX nmn nms nsn nss nen nes nbk nbs np ne nM nwr nwp g) (RK : KX hi kmn kms ksn kss ken kes kbk kbs kp ke kM kwr kwp ik kg) (RR : RC tx len ty fd) (RT : TP so le it so2 sz it2) (hP : va_P (dC, dI) vwCl (wd cI cJ aX aM f k h nmn nms nsn nss nen nes nbk nbs np ne nM nwr nwp kmn kms ksn kss ken kes kbk kbs kp ke kM kwr kwp tmn tms tsn tss ten tes tbk tbs tp te tM twr twp tx len nx cn cs so le it hi g kg wg tri tb ty fd pl lt fs sc so2 sz it2 ik) H) (hS : va_S (fun q : Nat => s.heap.size ≤ q) s.heap H locs) (hl : lv_has ls 4 [(0, .ref b), (1, .ref aX), (2, .ref aM), (3, .int (nI i))]) (kk : INVK dC dI cI cJ aX aM f k (fun H => ∀ (locs : List Loc), va_S (fun q : Nat => s.heap.size ≤ q) s.heap H locs → W p l e room_1 s m #[Value.ref b] below meth c H locs 600000 7302250 (lw_Z below #[Value.ref b] s) (F0 m 1390 ls []))) : W p l e room_1 s m #[Value.ref b] below meth c H locs 600000 7302250 (lw_Z below #[Value.ref b] s) (F0 m 446 ls []) := by
  obtain ⟨hx, hb, hml, hown, hts, hX, hbl, hL, hE, hD, hZ, hXS⟩ := C
  have hA : ∀ q : Nat, s.heap.size ≤ q → (fun q : Nat => s.heap.size ≤ q) q := fun _ h => h
  have hbA : ¬ (fun q : Nat => s.heap.size ≤ q) b := Nat.not_le.mpr hbl
  obtain ⟨r, ⟨tri1, tb1⟩, RO1, e6, e7⟩ := pm_rule (t := (tri, tb)) RS RH RO (xs (i + 1)) (xs (i + 2)) (xs (i + 3))
  refine lv_aload_n hx hb dL_law_446 rfl (lv_at hl 1 rfl) ?_
  refine lv_aload_n hx hb dL_law_447 rfl (lv_at hl 0 rfl) ?_
  refine lv_iload_n hx hb dL_law_448 rfl (lv_at hl 3 rfl) ?_
  refine lv_iconst (v := (1 : Int32)) hx hb dL_law_449 (by decide) ?_
  refine lv_iadd hx hb dL_law_450 ?_
  refine va_sld hx hb hX hbl hbA hS (sx_i (x := (1 : Int32)) rfl (j := 1) (by omega) hL) dL_law_451 ?_
  refine tp_ (y := xs (i + 1)) (congrArg xs (sx_c (x := (1 : Int32)) rfl (j := 1) (by omega) hL).symm) ?_
  refine lv_aload_n hx hb dL_law_452 rfl (lv_at hl 0 rfl) ?_
  refine lv_iload_n hx hb dL_law_453 rfl (lv_at hl 3 rfl) ?_
  refine lv_iconst (v := (2 : Int32)) hx hb dL_law_454 (by decide) ?_
  refine lv_iadd hx hb dL_law_455 ?_
  refine va_sld hx hb hX hbl hbA hS (sx_i (x := (2 : Int32)) rfl (j := 2) (by omega) hL) dL_law_456 ?_
  refine tp_ (y := xs (i + 2)) (congrArg xs (sx_c (x := (2 : Int32)) rfl (j := 2) (by omega) hL).symm) ?_
  refine lv_aload_n hx hb dL_law_457 rfl (lv_at hl 0 rfl) ?_
  refine lv_iload_n hx hb dL_law_458 rfl (lv_at hl 3 rfl) ?_
  refine lv_iconst (v := (3 : Int32)) hx hb dL_law_459 (by decide) ?_
  refine lv_iadd hx hb dL_law_460 ?_
  refine va_sld hx hb hX hbl hbA hS (sx_i (x := (3 : Int32)) rfl (j := 3) (by omega) hL) dL_law_461 ?_
  refine tp_ (y := xs (i + 3)) (congrArg xs (sx_c (x := (3 : Int32)) rfl (j := 3) (by omega) hL).symm) ?_
  refine ro_V ⟨hx, hb, hml, hown, hts⟩ (k_X6_rule l dC dI cI cJ aX (f 0) (f 2) (f 11) (f 20) (f 29) (f 33) (f 1) (f 3) (f 5) (f 7) (f 9) (xs (i + 1)) (xs (i + 2)) (xs (i + 3)) hi h np ne nM nwr nwp _ e6) (cwV 3 hts gL_law_X6_rule rfl rfl rfl (by decide +kernel) ⟨Nat.le_of_ble_eq_true rfl, Nat.le_of_ble_eq_true rfl⟩) hE hP 0 rfl rfl rfl (hP.sub [0, 1, 2, 3] rfl) rfl hl.1 rfl (Nat.le_of_ble_eq_true rfl) dL_law_462 ⟨Nat.le_of_ble_eq_true rfl, Nat.le_of_ble_eq_true rfl⟩ ?_
  refine lv_aload_n hx hb dL_law_465 rfl (lv_at hl 2 rfl) ?_
  refine lv_aload_n hx hb dL_law_466 rfl (lv_at hl 0 rfl) ?_
  refine lv_iload_n hx hb dL_law_467 rfl (lv_at hl 3 rfl) ?_
  refine lv_iconst (v := (1 : Int32)) hx hb dL_law_468 (by decide) ?_
  refine lv_iadd hx hb dL_law_469 ?_
  refine va_sld hx hb hX hbl hbA hS (sx_i (x := (1 : Int32)) rfl (j := 1) (by omega) hL) dL_law_470 ?_
  refine tp_ (y := xs (i + 1)) (congrArg xs (sx_c (x := (1 : Int32)) rfl (j := 1) (by omega) hL).symm) ?_
  refine lv_aload_n hx hb dL_law_471 rfl (lv_at hl 0 rfl) ?_
  refine lv_iload_n hx hb dL_law_472 rfl (lv_at hl 3 rfl) ?_
  refine lv_iconst (v := (2 : Int32)) hx hb dL_law_473 (by decide) ?_
  refine lv_iadd hx hb dL_law_474 ?_
  refine va_sld hx hb hX hbl hbA hS (sx_i (x := (2 : Int32)) rfl (j := 2) (by omega) hL) dL_law_475 ?_
  refine tp_ (y := xs (i + 2)) (congrArg xs (sx_c (x := (2 : Int32)) rfl (j := 2) (by omega) hL).symm) ?_
  refine lv_aload_n hx hb dL_law_476 rfl (lv_at hl 0 rfl) ?_
  refine lv_iload_n hx hb dL_law_477 rfl (lv_at hl 3 rfl) ?_
  refine lv_iconst (v := (3 : Int32)) hx hb dL_law_478 (by decide) ?_
  refine lv_iadd hx hb dL_law_479 ?_
  refine va_sld hx hb hX hbl hbA hS (sx_i (x := (3 : Int32)) rfl (j := 3) (by omega) hL) dL_law_480 ?_
  refine tp_ (y := xs (i + 3)) (congrArg xs (sx_c (x := (3 : Int32)) rfl (j := 3) (by omega) hL).symm) ?_
  refine mu_X ⟨hx, hb, hml, hown, hts⟩ (k_X7_rule l dC dI cI cJ aM (k 0) (k 1) (k 2) (k 3) (k 4) (k 5) (k 6) (k 7) (xs (i + 1)) (xs (i + 2)) (xs (i + 3)) ik tb fd pl lt fs sc g tri H.size _ e7) (cwV 3 hts gL_law_X7_rule rfl rfl rfl (by decide +kernel) ⟨Nat.le_of_ble_eq_true rfl, Nat.le_of_ble_eq_true rfl⟩) hE 38 rfl rfl rfl rfl hl.1 rfl (Nat.le_of_ble_eq_true rfl) dL_law_481 ⟨Nat.le_of_ble_eq_true rfl, Nat.le_of_ble_eq_true rfl⟩ hP (hD.fst rfl) hS hA [false, false, false, false, false, false, false, false, false, false, false, false, false, false, false, false, false, false, false, false, false, false, false, false, false, false, false, false, false, false, false, false, false, false, false, false, false, false, true, true, false, false, true] rfl (W1 := wd cI cJ aX aM f k h nmn nms nsn nss nen nes nbk nbs np ne nM nwr nwp kmn kms ksn kss ken kes kbk kbs kp ke kM kwr kwp tmn tms tsn tss ten tes tbk tbs tp te tM twr twp tx len nx cn cs so le it hi g kg wg tri1 tb1 ty fd pl lt fs sc so2 sz it2 ik) rfl (fun H locs hP hS => W.eq (g2 := F0 m 484 ls [.int r, .int r]) rfl ?_)
  refine lv_icmp_eq (tgt := 1390) hx hb dL_law_484 (by decide) (fun _ => ?_) (fun q => absurd rfl q)
  exact kk h nmn nms nsn nss nen nes nbk nbs np ne nM nwr nwp kmn kms ksn kss ken kes kbk kbs kp ke kM kwr kwp tmn tms tsn tss ten tes tbk tbs tp te tM twr twp tx len nx cn cs so le it hi g kg wg tri1 tb1 ty fd pl lt fs sc so2 sz it2 ik _ RH RO1 RS RK RR RT hP _ hS
set_option maxHeartbeats 8000000 in
set_option maxRecDepth 100000 in
theorem lc_marked {p : Program} {l : Launch} {e : Env} {s : State} {m : MethodId} {below : List Frame} {meth : Method} {c : Code} {dC : Nat → ClassId} {dI : Nat → Nat → Nat} {cI cJ : ClassId} {b L : Nat} {xs : Nat → Int32} {aX aM aS : Nat} {f k : Nat → Nat} (C : LC p l e s m meth c dC dI cI cJ b L xs aX aM aS f k) {i : Nat} (hi6 : i + 6 ≤ L) {H : Heap} {locs : List Loc} {ls : Array Slot} {h : Nat → Int32} {nmn : Nat → Int32} {nms : Int32} {nsn : Nat → Int32} {nss : Int32} {nen : Nat → Int32} {nes : Int32} {nbk : Nat → Int32} {nbs : Int32} {np : Int32} {ne : Int32} {nM : Int32} {nwr : Int32} {nwp : Int32} {kmn : Nat → Int32} {kms : Int32} {ksn : Nat → Int32} {kss : Int32} {ken : Nat → Int32} {kes : Int32} {kbk : Nat → Int32} {kbs : Int32} {kp : Int32} {ke : Int32} {kM : Int32} {kwr : Int32} {kwp : Int32} {tmn : Nat → Int32} {tms : Int32} {tsn : Nat → Int32} {tss : Int32} {ten : Nat → Int32} {tes : Int32} {tbk : Nat → Int32} {tbs : Int32} {tp : Int32} {te : Int32} {tM : Int32} {twr : Int32} {twp : Int32} {tx : Nat → Int32} {len : Int32} {nx : Int32} {cn : Nat → Int32} {cs : Int32} {so : Nat → Int32} {le : Nat → Int32} {it : Nat → Int64} {hi : Int32} {g : Nat → Int32} {kg : Nat → Int32} {wg : Nat → Int32} {tri : Nat → Int32} {tb : Int32} {ty : Nat → Int32} {fd : Int32} {pl : Int32} {lt : Int32} {fs : Int32} {sc : Int32} {so2 : Nat → Int32} {sz : Nat → Int32} {it2 : Nat → Int64} {ik : Int32} (RH : HT h) (RO : OK (tri, tb)) (RS : SX nmn nms nsn nss nen nes nbk nbs np ne nM nwr nwp g) (RK : KX hi kmn kms ksn kss ken kes kbk kbs kp ke kM kwr kwp ik kg) (RR : RC tx len ty fd) (RT : TP so le it so2 sz it2) (hP : va_P (dC, dI) vwCl (wd cI cJ aX aM f k h nmn nms nsn nss nen nes nbk nbs np ne nM nwr nwp kmn kms ksn kss ken kes kbk kbs kp ke kM kwr kwp tmn tms tsn tss ten tes tbk tbs tp te tM twr twp tx len nx cn cs so le it hi g kg wg tri tb ty fd pl lt fs sc so2 sz it2 ik) H) (hS : va_S (fun q : Nat => s.heap.size ≤ q) s.heap H locs) (hl : lv_has ls 4 [(0, .ref b), (1, .ref aX), (2, .ref aM), (3, .int (nI i))]) (kk : INVK dC dI cI cJ aX aM f k (fun H => ∀ (locs : List Loc), va_S (fun q : Nat => s.heap.size ≤ q) s.heap H locs → W p l e room_1 s m #[Value.ref b] below meth c H locs 600000 7302250 (lw_Z below #[Value.ref b] s) (F0 m 1390 ls []))) : W p l e room_1 s m #[Value.ref b] below meth c H locs 600000 7302250 (lw_Z below #[Value.ref b] s) (F0 m 489 ls []) := by
  obtain ⟨hx, hb, hml, hown, hts, hX, hbl, hL, hE, hD, hZ, hXS⟩ := C
  have hA : ∀ q : Nat, s.heap.size ≤ q → (fun q : Nat => s.heap.size ≤ q) q := fun _ h => h
  have hbA : ¬ (fun q : Nat => s.heap.size ≤ q) b := Nat.not_le.mpr hbl
  obtain ⟨r, ⟨tri1, tb1⟩, RO1, e6, e7⟩ := pm_marked (t := (tri, tb)) RS RH RO (xs (i + 1)) (xs (i + 2))
  refine lv_aload_n hx hb dL_law_489 rfl (lv_at hl 1 rfl) ?_
  refine lv_aload_n hx hb dL_law_490 rfl (lv_at hl 0 rfl) ?_
  refine lv_iload_n hx hb dL_law_491 rfl (lv_at hl 3 rfl) ?_
  refine lv_iconst (v := (1 : Int32)) hx hb dL_law_492 (by decide) ?_
  refine lv_iadd hx hb dL_law_493 ?_
  refine va_sld hx hb hX hbl hbA hS (sx_i (x := (1 : Int32)) rfl (j := 1) (by omega) hL) dL_law_494 ?_
  refine tp_ (y := xs (i + 1)) (congrArg xs (sx_c (x := (1 : Int32)) rfl (j := 1) (by omega) hL).symm) ?_
  refine lv_aload_n hx hb dL_law_495 rfl (lv_at hl 0 rfl) ?_
  refine lv_iload_n hx hb dL_law_496 rfl (lv_at hl 3 rfl) ?_
  refine lv_iconst (v := (2 : Int32)) hx hb dL_law_497 (by decide) ?_
  refine lv_iadd hx hb dL_law_498 ?_
  refine va_sld hx hb hX hbl hbA hS (sx_i (x := (2 : Int32)) rfl (j := 2) (by omega) hL) dL_law_499 ?_
  refine tp_ (y := xs (i + 2)) (congrArg xs (sx_c (x := (2 : Int32)) rfl (j := 2) (by omega) hL).symm) ?_
  refine ro_V ⟨hx, hb, hml, hown, hts⟩ (k_X6_marked l dC dI cI cJ aX (f 0) (f 2) (f 11) (f 20) (f 29) (f 33) (f 1) (f 3) (f 5) (f 7) (f 9) (f 4) (xs (i + 1)) (xs (i + 2)) hi h np ne nM nwr nwp nms nmn _ e6) (cwV 2 hts gL_law_X6_marked rfl rfl rfl (by decide +kernel) ⟨Nat.le_of_ble_eq_true rfl, Nat.le_of_ble_eq_true rfl⟩) hE hP 0 rfl rfl rfl (hP.sub [0, 1, 2, 3, 4, 5] rfl) rfl hl.1 rfl (Nat.le_of_ble_eq_true rfl) dL_law_500 ⟨Nat.le_of_ble_eq_true rfl, Nat.le_of_ble_eq_true rfl⟩ ?_
  refine lv_aload_n hx hb dL_law_503 rfl (lv_at hl 2 rfl) ?_
  refine lv_aload_n hx hb dL_law_504 rfl (lv_at hl 0 rfl) ?_
  refine lv_iload_n hx hb dL_law_505 rfl (lv_at hl 3 rfl) ?_
  refine lv_iconst (v := (1 : Int32)) hx hb dL_law_506 (by decide) ?_
  refine lv_iadd hx hb dL_law_507 ?_
  refine va_sld hx hb hX hbl hbA hS (sx_i (x := (1 : Int32)) rfl (j := 1) (by omega) hL) dL_law_508 ?_
  refine tp_ (y := xs (i + 1)) (congrArg xs (sx_c (x := (1 : Int32)) rfl (j := 1) (by omega) hL).symm) ?_
  refine lv_aload_n hx hb dL_law_509 rfl (lv_at hl 0 rfl) ?_
  refine lv_iload_n hx hb dL_law_510 rfl (lv_at hl 3 rfl) ?_
  refine lv_iconst (v := (2 : Int32)) hx hb dL_law_511 (by decide) ?_
  refine lv_iadd hx hb dL_law_512 ?_
  refine va_sld hx hb hX hbl hbA hS (sx_i (x := (2 : Int32)) rfl (j := 2) (by omega) hL) dL_law_513 ?_
  refine tp_ (y := xs (i + 2)) (congrArg xs (sx_c (x := (2 : Int32)) rfl (j := 2) (by omega) hL).symm) ?_
  refine mu_X ⟨hx, hb, hml, hown, hts⟩ (k_X7_marked l dC dI cI cJ aM (k 0) (k 1) (k 2) (k 3) (k 4) (k 5) (k 6) (k 7) (xs (i + 1)) (xs (i + 2)) ik tb fd pl lt fs sc g tri H.size _ e7) (cwV 2 hts gL_law_X7_marked rfl rfl rfl (by decide +kernel) ⟨Nat.le_of_ble_eq_true rfl, Nat.le_of_ble_eq_true rfl⟩) hE 38 rfl rfl rfl rfl hl.1 rfl (Nat.le_of_ble_eq_true rfl) dL_law_514 ⟨Nat.le_of_ble_eq_true rfl, Nat.le_of_ble_eq_true rfl⟩ hP (hD.fst rfl) hS hA [false, false, false, false, false, false, false, false, false, false, false, false, false, false, false, false, false, false, false, false, false, false, false, false, false, false, false, false, false, false, false, false, false, false, false, false, false, false, true, true, false, false, true] rfl (W1 := wd cI cJ aX aM f k h nmn nms nsn nss nen nes nbk nbs np ne nM nwr nwp kmn kms ksn kss ken kes kbk kbs kp ke kM kwr kwp tmn tms tsn tss ten tes tbk tbs tp te tM twr twp tx len nx cn cs so le it hi g kg wg tri1 tb1 ty fd pl lt fs sc so2 sz it2 ik) rfl (fun H locs hP hS => W.eq (g2 := F0 m 517 ls [.int r, .int r]) rfl ?_)
  refine lv_icmp_eq (tgt := 1390) hx hb dL_law_517 (by decide) (fun _ => ?_) (fun q => absurd rfl q)
  exact kk h nmn nms nsn nss nen nes nbk nbs np ne nM nwr nwp kmn kms ksn kss ken kes kbk kbs kp ke kM kwr kwp tmn tms tsn tss ten tes tbk tbs tp te tM twr twp tx len nx cn cs so le it hi g kg wg tri1 tb1 ty fd pl lt fs sc so2 sz it2 ik _ RH RO1 RS RK RR RT hP _ hS
set_option maxHeartbeats 8000000 in
set_option maxRecDepth 100000 in
theorem lc_digit {p : Program} {l : Launch} {e : Env} {s : State} {m : MethodId} {below : List Frame} {meth : Method} {c : Code} {dC : Nat → ClassId} {dI : Nat → Nat → Nat} {cI cJ : ClassId} {b L : Nat} {xs : Nat → Int32} {aX aM aS : Nat} {f k : Nat → Nat} (C : LC p l e s m meth c dC dI cI cJ b L xs aX aM aS f k) {i : Nat} (hi6 : i + 6 ≤ L) {H : Heap} {locs : List Loc} {ls : Array Slot} {h : Nat → Int32} {nmn : Nat → Int32} {nms : Int32} {nsn : Nat → Int32} {nss : Int32} {nen : Nat → Int32} {nes : Int32} {nbk : Nat → Int32} {nbs : Int32} {np : Int32} {ne : Int32} {nM : Int32} {nwr : Int32} {nwp : Int32} {kmn : Nat → Int32} {kms : Int32} {ksn : Nat → Int32} {kss : Int32} {ken : Nat → Int32} {kes : Int32} {kbk : Nat → Int32} {kbs : Int32} {kp : Int32} {ke : Int32} {kM : Int32} {kwr : Int32} {kwp : Int32} {tmn : Nat → Int32} {tms : Int32} {tsn : Nat → Int32} {tss : Int32} {ten : Nat → Int32} {tes : Int32} {tbk : Nat → Int32} {tbs : Int32} {tp : Int32} {te : Int32} {tM : Int32} {twr : Int32} {twp : Int32} {tx : Nat → Int32} {len : Int32} {nx : Int32} {cn : Nat → Int32} {cs : Int32} {so : Nat → Int32} {le : Nat → Int32} {it : Nat → Int64} {hi : Int32} {g : Nat → Int32} {kg : Nat → Int32} {wg : Nat → Int32} {tri : Nat → Int32} {tb : Int32} {ty : Nat → Int32} {fd : Int32} {pl : Int32} {lt : Int32} {fs : Int32} {sc : Int32} {so2 : Nat → Int32} {sz : Nat → Int32} {it2 : Nat → Int64} {ik : Int32} (RH : HT h) (RO : OK (tri, tb)) (RS : SX nmn nms nsn nss nen nes nbk nbs np ne nM nwr nwp g) (RK : KX hi kmn kms ksn kss ken kes kbk kbs kp ke kM kwr kwp ik kg) (RR : RC tx len ty fd) (RT : TP so le it so2 sz it2) (hP : va_P (dC, dI) vwCl (wd cI cJ aX aM f k h nmn nms nsn nss nen nes nbk nbs np ne nM nwr nwp kmn kms ksn kss ken kes kbk kbs kp ke kM kwr kwp tmn tms tsn tss ten tes tbk tbs tp te tM twr twp tx len nx cn cs so le it hi g kg wg tri tb ty fd pl lt fs sc so2 sz it2 ik) H) (hS : va_S (fun q : Nat => s.heap.size ≤ q) s.heap H locs) (hl : lv_has ls 4 [(0, .ref b), (1, .ref aX), (2, .ref aM), (3, .int (nI i))]) (kk : INVK dC dI cI cJ aX aM f k (fun H => ∀ (locs : List Loc), va_S (fun q : Nat => s.heap.size ≤ q) s.heap H locs → W p l e room_1 s m #[Value.ref b] below meth c H locs 600000 7302250 (lw_Z below #[Value.ref b] s) (F0 m 1390 ls []))) : W p l e room_1 s m #[Value.ref b] below meth c H locs 600000 7302250 (lw_Z below #[Value.ref b] s) (F0 m 522 ls []) := by
  obtain ⟨hx, hb, hml, hown, hts, hX, hbl, hL, hE, hD, hZ, hXS⟩ := C
  have hA : ∀ q : Nat, s.heap.size ≤ q → (fun q : Nat => s.heap.size ≤ q) q := fun _ h => h
  have hbA : ¬ (fun q : Nat => s.heap.size ≤ q) b := Nat.not_le.mpr hbl
  obtain ⟨r, e6, e7⟩ := pm_digit RS (xs (i + 1)) (xs (i + 2))
  refine lv_aload_n hx hb dL_law_522 rfl (lv_at hl 1 rfl) ?_
  refine lv_aload_n hx hb dL_law_523 rfl (lv_at hl 0 rfl) ?_
  refine lv_iload_n hx hb dL_law_524 rfl (lv_at hl 3 rfl) ?_
  refine lv_iconst (v := (1 : Int32)) hx hb dL_law_525 (by decide) ?_
  refine lv_iadd hx hb dL_law_526 ?_
  refine va_sld hx hb hX hbl hbA hS (sx_i (x := (1 : Int32)) rfl (j := 1) (by omega) hL) dL_law_527 ?_
  refine tp_ (y := xs (i + 1)) (congrArg xs (sx_c (x := (1 : Int32)) rfl (j := 1) (by omega) hL).symm) ?_
  refine lv_aload_n hx hb dL_law_528 rfl (lv_at hl 0 rfl) ?_
  refine lv_iload_n hx hb dL_law_529 rfl (lv_at hl 3 rfl) ?_
  refine lv_iconst (v := (2 : Int32)) hx hb dL_law_530 (by decide) ?_
  refine lv_iadd hx hb dL_law_531 ?_
  refine va_sld hx hb hX hbl hbA hS (sx_i (x := (2 : Int32)) rfl (j := 2) (by omega) hL) dL_law_532 ?_
  refine tp_ (y := xs (i + 2)) (congrArg xs (sx_c (x := (2 : Int32)) rfl (j := 2) (by omega) hL).symm) ?_
  refine ro_V ⟨hx, hb, hml, hown, hts⟩ (k_X6_digit l dC dI cI cJ aX (f 0) (f 2) (f 11) (f 20) (f 29) (f 33) (f 3) (f 5) (f 7) (f 9) (xs (i + 1)) (xs (i + 2)) hi np ne nM nwr nwp _ e6) (cwV 2 hts gL_law_X6_digit rfl rfl rfl (by decide +kernel) ⟨Nat.le_of_ble_eq_true rfl, Nat.le_of_ble_eq_true rfl⟩) hE hP 0 rfl rfl rfl (hP.sub [0, 3] rfl) rfl hl.1 rfl (Nat.le_of_ble_eq_true rfl) dL_law_533 ⟨Nat.le_of_ble_eq_true rfl, Nat.le_of_ble_eq_true rfl⟩ ?_
  refine lv_aload_n hx hb dL_law_536 rfl (lv_at hl 2 rfl) ?_
  refine lv_aload_n hx hb dL_law_537 rfl (lv_at hl 0 rfl) ?_
  refine lv_iload_n hx hb dL_law_538 rfl (lv_at hl 3 rfl) ?_
  refine lv_iconst (v := (1 : Int32)) hx hb dL_law_539 (by decide) ?_
  refine lv_iadd hx hb dL_law_540 ?_
  refine va_sld hx hb hX hbl hbA hS (sx_i (x := (1 : Int32)) rfl (j := 1) (by omega) hL) dL_law_541 ?_
  refine tp_ (y := xs (i + 1)) (congrArg xs (sx_c (x := (1 : Int32)) rfl (j := 1) (by omega) hL).symm) ?_
  refine lv_aload_n hx hb dL_law_542 rfl (lv_at hl 0 rfl) ?_
  refine lv_iload_n hx hb dL_law_543 rfl (lv_at hl 3 rfl) ?_
  refine lv_iconst (v := (2 : Int32)) hx hb dL_law_544 (by decide) ?_
  refine lv_iadd hx hb dL_law_545 ?_
  refine va_sld hx hb hX hbl hbA hS (sx_i (x := (2 : Int32)) rfl (j := 2) (by omega) hL) dL_law_546 ?_
  refine tp_ (y := xs (i + 2)) (congrArg xs (sx_c (x := (2 : Int32)) rfl (j := 2) (by omega) hL).symm) ?_
  refine ro_V ⟨hx, hb, hml, hown, hts⟩ (k_X7_digit l dC dI cI cJ aM (k 0) (k 1) (k 2) (k 3) (k 4) (k 5) (k 6) (k 7) (xs (i + 1)) (xs (i + 2)) ik tb fd pl lt fs sc g _ e7) (cwV 2 hts gL_law_X7_digit rfl rfl rfl (by decide +kernel) ⟨Nat.le_of_ble_eq_true rfl, Nat.le_of_ble_eq_true rfl⟩) hE hP 38 rfl rfl rfl (hP.sub [38, 39] rfl) rfl hl.1 rfl (Nat.le_of_ble_eq_true rfl) dL_law_547 ⟨Nat.le_of_ble_eq_true rfl, Nat.le_of_ble_eq_true rfl⟩ ?_
  refine lv_icmp_eq (tgt := 1390) hx hb dL_law_550 (by decide) (fun _ => ?_) (fun q => absurd rfl q)
  exact kk h nmn nms nsn nss nen nes nbk nbs np ne nM nwr nwp kmn kms ksn kss ken kes kbk kbs kp ke kM kwr kwp tmn tms tsn tss ten tes tbk tbs tp te tM twr twp tx len nx cn cs so le it hi g kg wg tri tb ty fd pl lt fs sc so2 sz it2 ik _ RH RO RS RK RR RT hP _ hS
set_option maxHeartbeats 8000000 in
set_option maxRecDepth 100000 in
theorem lc_pure {p : Program} {l : Launch} {e : Env} {s : State} {m : MethodId} {below : List Frame} {meth : Method} {c : Code} {dC : Nat → ClassId} {dI : Nat → Nat → Nat} {cI cJ : ClassId} {b L : Nat} {xs : Nat → Int32} {aX aM aS : Nat} {f k : Nat → Nat} (C : LC p l e s m meth c dC dI cI cJ b L xs aX aM aS f k) {i : Nat} (hi6 : i + 6 ≤ L) {H : Heap} {locs : List Loc} {ls : Array Slot} {h : Nat → Int32} {nmn : Nat → Int32} {nms : Int32} {nsn : Nat → Int32} {nss : Int32} {nen : Nat → Int32} {nes : Int32} {nbk : Nat → Int32} {nbs : Int32} {np : Int32} {ne : Int32} {nM : Int32} {nwr : Int32} {nwp : Int32} {kmn : Nat → Int32} {kms : Int32} {ksn : Nat → Int32} {kss : Int32} {ken : Nat → Int32} {kes : Int32} {kbk : Nat → Int32} {kbs : Int32} {kp : Int32} {ke : Int32} {kM : Int32} {kwr : Int32} {kwp : Int32} {tmn : Nat → Int32} {tms : Int32} {tsn : Nat → Int32} {tss : Int32} {ten : Nat → Int32} {tes : Int32} {tbk : Nat → Int32} {tbs : Int32} {tp : Int32} {te : Int32} {tM : Int32} {twr : Int32} {twp : Int32} {tx : Nat → Int32} {len : Int32} {nx : Int32} {cn : Nat → Int32} {cs : Int32} {so : Nat → Int32} {le : Nat → Int32} {it : Nat → Int64} {hi : Int32} {g : Nat → Int32} {kg : Nat → Int32} {wg : Nat → Int32} {tri : Nat → Int32} {tb : Int32} {ty : Nat → Int32} {fd : Int32} {pl : Int32} {lt : Int32} {fs : Int32} {sc : Int32} {so2 : Nat → Int32} {sz : Nat → Int32} {it2 : Nat → Int64} {ik : Int32} (RH : HT h) (RO : OK (tri, tb)) (RS : SX nmn nms nsn nss nen nes nbk nbs np ne nM nwr nwp g) (RK : KX hi kmn kms ksn kss ken kes kbk kbs kp ke kM kwr kwp ik kg) (RR : RC tx len ty fd) (RT : TP so le it so2 sz it2) (hP : va_P (dC, dI) vwCl (wd cI cJ aX aM f k h nmn nms nsn nss nen nes nbk nbs np ne nM nwr nwp kmn kms ksn kss ken kes kbk kbs kp ke kM kwr kwp tmn tms tsn tss ten tes tbk tbs tp te tM twr twp tx len nx cn cs so le it hi g kg wg tri tb ty fd pl lt fs sc so2 sz it2 ik) H) (hS : va_S (fun q : Nat => s.heap.size ≤ q) s.heap H locs) (hl : lv_has ls 4 [(0, .ref b), (1, .ref aX), (2, .ref aM), (3, .int (nI i))]) (kk : INVK dC dI cI cJ aX aM f k (fun H => ∀ (locs : List Loc), va_S (fun q : Nat => s.heap.size ≤ q) s.heap H locs → W p l e room_1 s m #[Value.ref b] below meth c H locs 600000 7302250 (lw_Z below #[Value.ref b] s) (F0 m 1390 ls []))) : W p l e room_1 s m #[Value.ref b] below meth c H locs 600000 7302250 (lw_Z below #[Value.ref b] s) (F0 m 555 ls []) := by
  obtain ⟨hx, hb, hml, hown, hts, hX, hbl, hL, hE, hD, hZ, hXS⟩ := C
  have hA : ∀ q : Nat, s.heap.size ≤ q → (fun q : Nat => s.heap.size ≤ q) q := fun _ h => h
  have hbA : ¬ (fun q : Nat => s.heap.size ≤ q) b := Nat.not_le.mpr hbl
  obtain ⟨r, e6, e7⟩ := pm_pure RS (xs (i + 1)) (xs (i + 2))
  refine lv_aload_n hx hb dL_law_555 rfl (lv_at hl 1 rfl) ?_
  refine lv_aload_n hx hb dL_law_556 rfl (lv_at hl 0 rfl) ?_
  refine lv_iload_n hx hb dL_law_557 rfl (lv_at hl 3 rfl) ?_
  refine lv_iconst (v := (1 : Int32)) hx hb dL_law_558 (by decide) ?_
  refine lv_iadd hx hb dL_law_559 ?_
  refine va_sld hx hb hX hbl hbA hS (sx_i (x := (1 : Int32)) rfl (j := 1) (by omega) hL) dL_law_560 ?_
  refine tp_ (y := xs (i + 1)) (congrArg xs (sx_c (x := (1 : Int32)) rfl (j := 1) (by omega) hL).symm) ?_
  refine lv_aload_n hx hb dL_law_561 rfl (lv_at hl 0 rfl) ?_
  refine lv_iload_n hx hb dL_law_562 rfl (lv_at hl 3 rfl) ?_
  refine lv_iconst (v := (2 : Int32)) hx hb dL_law_563 (by decide) ?_
  refine lv_iadd hx hb dL_law_564 ?_
  refine va_sld hx hb hX hbl hbA hS (sx_i (x := (2 : Int32)) rfl (j := 2) (by omega) hL) dL_law_565 ?_
  refine tp_ (y := xs (i + 2)) (congrArg xs (sx_c (x := (2 : Int32)) rfl (j := 2) (by omega) hL).symm) ?_
  refine ro_V ⟨hx, hb, hml, hown, hts⟩ (k_X6_pure l dC dI cI cJ aX (f 0) (f 2) (f 11) (f 20) (f 29) (f 33) (f 3) (f 5) (f 7) (f 9) (xs (i + 1)) (xs (i + 2)) hi np ne nM nwr nwp _ e6) (cwV 2 hts gL_law_X6_pure rfl rfl rfl (by decide +kernel) ⟨Nat.le_of_ble_eq_true rfl, Nat.le_of_ble_eq_true rfl⟩) hE hP 0 rfl rfl rfl (hP.sub [0, 3] rfl) rfl hl.1 rfl (Nat.le_of_ble_eq_true rfl) dL_law_566 ⟨Nat.le_of_ble_eq_true rfl, Nat.le_of_ble_eq_true rfl⟩ ?_
  refine lv_aload_n hx hb dL_law_569 rfl (lv_at hl 2 rfl) ?_
  refine lv_aload_n hx hb dL_law_570 rfl (lv_at hl 0 rfl) ?_
  refine lv_iload_n hx hb dL_law_571 rfl (lv_at hl 3 rfl) ?_
  refine lv_iconst (v := (1 : Int32)) hx hb dL_law_572 (by decide) ?_
  refine lv_iadd hx hb dL_law_573 ?_
  refine va_sld hx hb hX hbl hbA hS (sx_i (x := (1 : Int32)) rfl (j := 1) (by omega) hL) dL_law_574 ?_
  refine tp_ (y := xs (i + 1)) (congrArg xs (sx_c (x := (1 : Int32)) rfl (j := 1) (by omega) hL).symm) ?_
  refine lv_aload_n hx hb dL_law_575 rfl (lv_at hl 0 rfl) ?_
  refine lv_iload_n hx hb dL_law_576 rfl (lv_at hl 3 rfl) ?_
  refine lv_iconst (v := (2 : Int32)) hx hb dL_law_577 (by decide) ?_
  refine lv_iadd hx hb dL_law_578 ?_
  refine va_sld hx hb hX hbl hbA hS (sx_i (x := (2 : Int32)) rfl (j := 2) (by omega) hL) dL_law_579 ?_
  refine tp_ (y := xs (i + 2)) (congrArg xs (sx_c (x := (2 : Int32)) rfl (j := 2) (by omega) hL).symm) ?_
  refine ro_V ⟨hx, hb, hml, hown, hts⟩ (k_X7_pure l dC dI cI cJ aM (k 0) (k 1) (k 2) (k 3) (k 4) (k 5) (k 6) (k 7) (xs (i + 1)) (xs (i + 2)) ik tb fd pl lt fs sc g _ e7) (cwV 2 hts gL_law_X7_pure rfl rfl rfl (by decide +kernel) ⟨Nat.le_of_ble_eq_true rfl, Nat.le_of_ble_eq_true rfl⟩) hE hP 38 rfl rfl rfl (hP.sub [38, 39] rfl) rfl hl.1 rfl (Nat.le_of_ble_eq_true rfl) dL_law_580 ⟨Nat.le_of_ble_eq_true rfl, Nat.le_of_ble_eq_true rfl⟩ ?_
  refine lv_icmp_eq (tgt := 1390) hx hb dL_law_583 (by decide) (fun _ => ?_) (fun q => absurd rfl q)
  exact kk h nmn nms nsn nss nen nes nbk nbs np ne nM nwr nwp kmn kms ksn kss ken kes kbk kbs kp ke kM kwr kwp tmn tms tsn tss ten tes tbk tbs tp te tM twr twp tx len nx cn cs so le it hi g kg wg tri tb ty fd pl lt fs sc so2 sz it2 ik _ RH RO RS RK RR RT hP _ hS
set_option maxHeartbeats 8000000 in
set_option maxRecDepth 100000 in
theorem lc_counted {p : Program} {l : Launch} {e : Env} {s : State} {m : MethodId} {below : List Frame} {meth : Method} {c : Code} {dC : Nat → ClassId} {dI : Nat → Nat → Nat} {cI cJ : ClassId} {b L : Nat} {xs : Nat → Int32} {aX aM aS : Nat} {f k : Nat → Nat} (C : LC p l e s m meth c dC dI cI cJ b L xs aX aM aS f k) {i : Nat} (hi6 : i + 6 ≤ L) {H : Heap} {locs : List Loc} {ls : Array Slot} {h : Nat → Int32} {nmn : Nat → Int32} {nms : Int32} {nsn : Nat → Int32} {nss : Int32} {nen : Nat → Int32} {nes : Int32} {nbk : Nat → Int32} {nbs : Int32} {np : Int32} {ne : Int32} {nM : Int32} {nwr : Int32} {nwp : Int32} {kmn : Nat → Int32} {kms : Int32} {ksn : Nat → Int32} {kss : Int32} {ken : Nat → Int32} {kes : Int32} {kbk : Nat → Int32} {kbs : Int32} {kp : Int32} {ke : Int32} {kM : Int32} {kwr : Int32} {kwp : Int32} {tmn : Nat → Int32} {tms : Int32} {tsn : Nat → Int32} {tss : Int32} {ten : Nat → Int32} {tes : Int32} {tbk : Nat → Int32} {tbs : Int32} {tp : Int32} {te : Int32} {tM : Int32} {twr : Int32} {twp : Int32} {tx : Nat → Int32} {len : Int32} {nx : Int32} {cn : Nat → Int32} {cs : Int32} {so : Nat → Int32} {le : Nat → Int32} {it : Nat → Int64} {hi : Int32} {g : Nat → Int32} {kg : Nat → Int32} {wg : Nat → Int32} {tri : Nat → Int32} {tb : Int32} {ty : Nat → Int32} {fd : Int32} {pl : Int32} {lt : Int32} {fs : Int32} {sc : Int32} {so2 : Nat → Int32} {sz : Nat → Int32} {it2 : Nat → Int64} {ik : Int32} (RH : HT h) (RO : OK (tri, tb)) (RS : SX nmn nms nsn nss nen nes nbk nbs np ne nM nwr nwp g) (RK : KX hi kmn kms ksn kss ken kes kbk kbs kp ke kM kwr kwp ik kg) (RR : RC tx len ty fd) (RT : TP so le it so2 sz it2) (hP : va_P (dC, dI) vwCl (wd cI cJ aX aM f k h nmn nms nsn nss nen nes nbk nbs np ne nM nwr nwp kmn kms ksn kss ken kes kbk kbs kp ke kM kwr kwp tmn tms tsn tss ten tes tbk tbs tp te tM twr twp tx len nx cn cs so le it hi g kg wg tri tb ty fd pl lt fs sc so2 sz it2 ik) H) (hS : va_S (fun q : Nat => s.heap.size ≤ q) s.heap H locs) (hl : lv_has ls 4 [(0, .ref b), (1, .ref aX), (2, .ref aM), (3, .int (nI i))]) (kk : INVK dC dI cI cJ aX aM f k (fun H => ∀ (locs : List Loc), va_S (fun q : Nat => s.heap.size ≤ q) s.heap H locs → W p l e room_1 s m #[Value.ref b] below meth c H locs 600000 7302250 (lw_Z below #[Value.ref b] s) (F0 m 1390 ls []))) : W p l e room_1 s m #[Value.ref b] below meth c H locs 600000 7302250 (lw_Z below #[Value.ref b] s) (F0 m 588 ls []) := by
  obtain ⟨hx, hb, hml, hown, hts, hX, hbl, hL, hE, hD, hZ, hXS⟩ := C
  have hA : ∀ q : Nat, s.heap.size ≤ q → (fun q : Nat => s.heap.size ≤ q) q := fun _ h => h
  have hbA : ¬ (fun q : Nat => s.heap.size ≤ q) b := Nat.not_le.mpr hbl
  obtain ⟨r, ⟨tri1, tb1⟩, RO1, e6, e7⟩ := pm_counted (t := (tri, tb)) RS RH RO (xs (i + 1)) (xs (i + 2))
  refine lv_aload_n hx hb dL_law_588 rfl (lv_at hl 1 rfl) ?_
  refine lv_aload_n hx hb dL_law_589 rfl (lv_at hl 0 rfl) ?_
  refine lv_iload_n hx hb dL_law_590 rfl (lv_at hl 3 rfl) ?_
  refine lv_iconst (v := (1 : Int32)) hx hb dL_law_591 (by decide) ?_
  refine lv_iadd hx hb dL_law_592 ?_
  refine va_sld hx hb hX hbl hbA hS (sx_i (x := (1 : Int32)) rfl (j := 1) (by omega) hL) dL_law_593 ?_
  refine tp_ (y := xs (i + 1)) (congrArg xs (sx_c (x := (1 : Int32)) rfl (j := 1) (by omega) hL).symm) ?_
  refine lv_aload_n hx hb dL_law_594 rfl (lv_at hl 0 rfl) ?_
  refine lv_iload_n hx hb dL_law_595 rfl (lv_at hl 3 rfl) ?_
  refine lv_iconst (v := (2 : Int32)) hx hb dL_law_596 (by decide) ?_
  refine lv_iadd hx hb dL_law_597 ?_
  refine va_sld hx hb hX hbl hbA hS (sx_i (x := (2 : Int32)) rfl (j := 2) (by omega) hL) dL_law_598 ?_
  refine tp_ (y := xs (i + 2)) (congrArg xs (sx_c (x := (2 : Int32)) rfl (j := 2) (by omega) hL).symm) ?_
  refine ro_V ⟨hx, hb, hml, hown, hts⟩ (k_X6_counted l dC dI cI cJ aX (f 0) (f 2) (f 11) (f 20) (f 29) (f 33) (f 1) (f 3) (f 5) (f 7) (f 9) (xs (i + 1)) (xs (i + 2)) hi h np ne nM nwr nwp _ e6) (cwV 2 hts gL_law_X6_counted rfl rfl rfl (by decide +kernel) ⟨Nat.le_of_ble_eq_true rfl, Nat.le_of_ble_eq_true rfl⟩) hE hP 0 rfl rfl rfl (hP.sub [0, 1, 2, 3] rfl) rfl hl.1 rfl (Nat.le_of_ble_eq_true rfl) dL_law_599 ⟨Nat.le_of_ble_eq_true rfl, Nat.le_of_ble_eq_true rfl⟩ ?_
  refine lv_aload_n hx hb dL_law_602 rfl (lv_at hl 2 rfl) ?_
  refine lv_aload_n hx hb dL_law_603 rfl (lv_at hl 0 rfl) ?_
  refine lv_iload_n hx hb dL_law_604 rfl (lv_at hl 3 rfl) ?_
  refine lv_iconst (v := (1 : Int32)) hx hb dL_law_605 (by decide) ?_
  refine lv_iadd hx hb dL_law_606 ?_
  refine va_sld hx hb hX hbl hbA hS (sx_i (x := (1 : Int32)) rfl (j := 1) (by omega) hL) dL_law_607 ?_
  refine tp_ (y := xs (i + 1)) (congrArg xs (sx_c (x := (1 : Int32)) rfl (j := 1) (by omega) hL).symm) ?_
  refine lv_aload_n hx hb dL_law_608 rfl (lv_at hl 0 rfl) ?_
  refine lv_iload_n hx hb dL_law_609 rfl (lv_at hl 3 rfl) ?_
  refine lv_iconst (v := (2 : Int32)) hx hb dL_law_610 (by decide) ?_
  refine lv_iadd hx hb dL_law_611 ?_
  refine va_sld hx hb hX hbl hbA hS (sx_i (x := (2 : Int32)) rfl (j := 2) (by omega) hL) dL_law_612 ?_
  refine tp_ (y := xs (i + 2)) (congrArg xs (sx_c (x := (2 : Int32)) rfl (j := 2) (by omega) hL).symm) ?_
  refine mu_X ⟨hx, hb, hml, hown, hts⟩ (k_X7_counted l dC dI cI cJ aM (k 0) (k 1) (k 2) (k 3) (k 4) (k 5) (k 6) (k 7) (xs (i + 1)) (xs (i + 2)) ik tb fd pl lt fs sc g tri H.size _ e7) (cwV 2 hts gL_law_X7_counted rfl rfl rfl (by decide +kernel) ⟨Nat.le_of_ble_eq_true rfl, Nat.le_of_ble_eq_true rfl⟩) hE 38 rfl rfl rfl rfl hl.1 rfl (Nat.le_of_ble_eq_true rfl) dL_law_613 ⟨Nat.le_of_ble_eq_true rfl, Nat.le_of_ble_eq_true rfl⟩ hP (hD.fst rfl) hS hA [false, false, false, false, false, false, false, false, false, false, false, false, false, false, false, false, false, false, false, false, false, false, false, false, false, false, false, false, false, false, false, false, false, false, false, false, false, false, true, true, false, false, true] rfl (W1 := wd cI cJ aX aM f k h nmn nms nsn nss nen nes nbk nbs np ne nM nwr nwp kmn kms ksn kss ken kes kbk kbs kp ke kM kwr kwp tmn tms tsn tss ten tes tbk tbs tp te tM twr twp tx len nx cn cs so le it hi g kg wg tri1 tb1 ty fd pl lt fs sc so2 sz it2 ik) rfl (fun H locs hP hS => W.eq (g2 := F0 m 616 ls [.int r, .int r]) rfl ?_)
  refine lv_icmp_eq (tgt := 1390) hx hb dL_law_616 (by decide) (fun _ => ?_) (fun q => absurd rfl q)
  exact kk h nmn nms nsn nss nen nes nbk nbs np ne nM nwr nwp kmn kms ksn kss ken kes kbk kbs kp ke kM kwr kwp tmn tms tsn tss ten tes tbk tbs tp te tM twr twp tx len nx cn cs so le it hi g kg wg tri1 tb1 ty fd pl lt fs sc so2 sz it2 ik _ RH RO1 RS RK RR RT hP _ hS
set_option maxHeartbeats 8000000 in
set_option maxRecDepth 100000 in
theorem lc_row {p : Program} {l : Launch} {e : Env} {s : State} {m : MethodId} {below : List Frame} {meth : Method} {c : Code} {dC : Nat → ClassId} {dI : Nat → Nat → Nat} {cI cJ : ClassId} {b L : Nat} {xs : Nat → Int32} {aX aM aS : Nat} {f k : Nat → Nat} (C : LC p l e s m meth c dC dI cI cJ b L xs aX aM aS f k) {i : Nat} (hi6 : i + 6 ≤ L) {H : Heap} {locs : List Loc} {ls : Array Slot} {h : Nat → Int32} {nmn : Nat → Int32} {nms : Int32} {nsn : Nat → Int32} {nss : Int32} {nen : Nat → Int32} {nes : Int32} {nbk : Nat → Int32} {nbs : Int32} {np : Int32} {ne : Int32} {nM : Int32} {nwr : Int32} {nwp : Int32} {kmn : Nat → Int32} {kms : Int32} {ksn : Nat → Int32} {kss : Int32} {ken : Nat → Int32} {kes : Int32} {kbk : Nat → Int32} {kbs : Int32} {kp : Int32} {ke : Int32} {kM : Int32} {kwr : Int32} {kwp : Int32} {tmn : Nat → Int32} {tms : Int32} {tsn : Nat → Int32} {tss : Int32} {ten : Nat → Int32} {tes : Int32} {tbk : Nat → Int32} {tbs : Int32} {tp : Int32} {te : Int32} {tM : Int32} {twr : Int32} {twp : Int32} {tx : Nat → Int32} {len : Int32} {nx : Int32} {cn : Nat → Int32} {cs : Int32} {so : Nat → Int32} {le : Nat → Int32} {it : Nat → Int64} {hi : Int32} {g : Nat → Int32} {kg : Nat → Int32} {wg : Nat → Int32} {tri : Nat → Int32} {tb : Int32} {ty : Nat → Int32} {fd : Int32} {pl : Int32} {lt : Int32} {fs : Int32} {sc : Int32} {so2 : Nat → Int32} {sz : Nat → Int32} {it2 : Nat → Int64} {ik : Int32} (RH : HT h) (RO : OK (tri, tb)) (RS : SX nmn nms nsn nss nen nes nbk nbs np ne nM nwr nwp g) (RK : KX hi kmn kms ksn kss ken kes kbk kbs kp ke kM kwr kwp ik kg) (RR : RC tx len ty fd) (RT : TP so le it so2 sz it2) (hP : va_P (dC, dI) vwCl (wd cI cJ aX aM f k h nmn nms nsn nss nen nes nbk nbs np ne nM nwr nwp kmn kms ksn kss ken kes kbk kbs kp ke kM kwr kwp tmn tms tsn tss ten tes tbk tbs tp te tM twr twp tx len nx cn cs so le it hi g kg wg tri tb ty fd pl lt fs sc so2 sz it2 ik) H) (hS : va_S (fun q : Nat => s.heap.size ≤ q) s.heap H locs) (hl : lv_has ls 4 [(0, .ref b), (1, .ref aX), (2, .ref aM), (3, .int (nI i))]) (kk : INVK dC dI cI cJ aX aM f k (fun H => ∀ (locs : List Loc), va_S (fun q : Nat => s.heap.size ≤ q) s.heap H locs → W p l e room_1 s m #[Value.ref b] below meth c H locs 600000 7302250 (lw_Z below #[Value.ref b] s) (F0 m 1390 ls []))) : W p l e room_1 s m #[Value.ref b] below meth c H locs 600000 7302250 (lw_Z below #[Value.ref b] s) (F0 m 621 ls []) := by
  obtain ⟨hx, hb, hml, hown, hts, hX, hbl, hL, hE, hD, hZ, hXS⟩ := C
  have hA : ∀ q : Nat, s.heap.size ≤ q → (fun q : Nat => s.heap.size ≤ q) q := fun _ h => h
  have hbA : ¬ (fun q : Nat => s.heap.size ≤ q) b := Nat.not_le.mpr hbl
  obtain ⟨r, ⟨tri1, tb1⟩, RO1, e6, e7⟩ := pm_row (t := (tri, tb)) RS RH RO (xs (i + 1)) (xs (i + 2))
  refine lv_aload_n hx hb dL_law_621 rfl (lv_at hl 1 rfl) ?_
  refine lv_aload_n hx hb dL_law_622 rfl (lv_at hl 0 rfl) ?_
  refine lv_iload_n hx hb dL_law_623 rfl (lv_at hl 3 rfl) ?_
  refine lv_iconst (v := (1 : Int32)) hx hb dL_law_624 (by decide) ?_
  refine lv_iadd hx hb dL_law_625 ?_
  refine va_sld hx hb hX hbl hbA hS (sx_i (x := (1 : Int32)) rfl (j := 1) (by omega) hL) dL_law_626 ?_
  refine tp_ (y := xs (i + 1)) (congrArg xs (sx_c (x := (1 : Int32)) rfl (j := 1) (by omega) hL).symm) ?_
  refine lv_aload_n hx hb dL_law_627 rfl (lv_at hl 0 rfl) ?_
  refine lv_iload_n hx hb dL_law_628 rfl (lv_at hl 3 rfl) ?_
  refine lv_iconst (v := (2 : Int32)) hx hb dL_law_629 (by decide) ?_
  refine lv_iadd hx hb dL_law_630 ?_
  refine va_sld hx hb hX hbl hbA hS (sx_i (x := (2 : Int32)) rfl (j := 2) (by omega) hL) dL_law_631 ?_
  refine tp_ (y := xs (i + 2)) (congrArg xs (sx_c (x := (2 : Int32)) rfl (j := 2) (by omega) hL).symm) ?_
  refine ro_V ⟨hx, hb, hml, hown, hts⟩ (k_X6_row l dC dI cI cJ aX (f 0) (f 2) (f 11) (f 20) (f 29) (f 33) (f 1) (f 3) (f 5) (f 7) (f 9) (xs (i + 1)) (xs (i + 2)) hi h np ne nM nwr nwp _ e6) (cwV 2 hts gL_law_X6_row rfl rfl rfl (by decide +kernel) ⟨Nat.le_of_ble_eq_true rfl, Nat.le_of_ble_eq_true rfl⟩) hE hP 0 rfl rfl rfl (hP.sub [0, 1, 2, 3] rfl) rfl hl.1 rfl (Nat.le_of_ble_eq_true rfl) dL_law_632 ⟨Nat.le_of_ble_eq_true rfl, Nat.le_of_ble_eq_true rfl⟩ ?_
  refine lv_aload_n hx hb dL_law_635 rfl (lv_at hl 2 rfl) ?_
  refine lv_aload_n hx hb dL_law_636 rfl (lv_at hl 0 rfl) ?_
  refine lv_iload_n hx hb dL_law_637 rfl (lv_at hl 3 rfl) ?_
  refine lv_iconst (v := (1 : Int32)) hx hb dL_law_638 (by decide) ?_
  refine lv_iadd hx hb dL_law_639 ?_
  refine va_sld hx hb hX hbl hbA hS (sx_i (x := (1 : Int32)) rfl (j := 1) (by omega) hL) dL_law_640 ?_
  refine tp_ (y := xs (i + 1)) (congrArg xs (sx_c (x := (1 : Int32)) rfl (j := 1) (by omega) hL).symm) ?_
  refine lv_aload_n hx hb dL_law_641 rfl (lv_at hl 0 rfl) ?_
  refine lv_iload_n hx hb dL_law_642 rfl (lv_at hl 3 rfl) ?_
  refine lv_iconst (v := (2 : Int32)) hx hb dL_law_643 (by decide) ?_
  refine lv_iadd hx hb dL_law_644 ?_
  refine va_sld hx hb hX hbl hbA hS (sx_i (x := (2 : Int32)) rfl (j := 2) (by omega) hL) dL_law_645 ?_
  refine tp_ (y := xs (i + 2)) (congrArg xs (sx_c (x := (2 : Int32)) rfl (j := 2) (by omega) hL).symm) ?_
  refine mu_X ⟨hx, hb, hml, hown, hts⟩ (k_X7_row l dC dI cI cJ aM (k 0) (k 1) (k 2) (k 3) (k 4) (k 5) (k 6) (k 7) (xs (i + 1)) (xs (i + 2)) ik tb fd pl lt fs sc g tri H.size _ e7) (cwV 2 hts gL_law_X7_row rfl rfl rfl (by decide +kernel) ⟨Nat.le_of_ble_eq_true rfl, Nat.le_of_ble_eq_true rfl⟩) hE 38 rfl rfl rfl rfl hl.1 rfl (Nat.le_of_ble_eq_true rfl) dL_law_646 ⟨Nat.le_of_ble_eq_true rfl, Nat.le_of_ble_eq_true rfl⟩ hP (hD.fst rfl) hS hA [false, false, false, false, false, false, false, false, false, false, false, false, false, false, false, false, false, false, false, false, false, false, false, false, false, false, false, false, false, false, false, false, false, false, false, false, false, false, true, true, false, false, true] rfl (W1 := wd cI cJ aX aM f k h nmn nms nsn nss nen nes nbk nbs np ne nM nwr nwp kmn kms ksn kss ken kes kbk kbs kp ke kM kwr kwp tmn tms tsn tss ten tes tbk tbs tp te tM twr twp tx len nx cn cs so le it hi g kg wg tri1 tb1 ty fd pl lt fs sc so2 sz it2 ik) rfl (fun H locs hP hS => W.eq (g2 := F0 m 649 ls [.int r, .int r]) rfl ?_)
  refine lv_icmp_eq (tgt := 1390) hx hb dL_law_649 (by decide) (fun _ => ?_) (fun q => absurd rfl q)
  exact kk h nmn nms nsn nss nen nes nbk nbs np ne nM nwr nwp kmn kms ksn kss ken kes kbk kbs kp ke kM kwr kwp tmn tms tsn tss ten tes tbk tbs tp te tM twr twp tx len nx cn cs so le it hi g kg wg tri1 tb1 ty fd pl lt fs sc so2 sz it2 ik _ RH RO1 RS RK RR RT hP _ hS
set_option maxHeartbeats 8000000 in
set_option maxRecDepth 100000 in
theorem lc_kind {p : Program} {l : Launch} {e : Env} {s : State} {m : MethodId} {below : List Frame} {meth : Method} {c : Code} {dC : Nat → ClassId} {dI : Nat → Nat → Nat} {cI cJ : ClassId} {b L : Nat} {xs : Nat → Int32} {aX aM aS : Nat} {f k : Nat → Nat} (C : LC p l e s m meth c dC dI cI cJ b L xs aX aM aS f k) {i : Nat} (hi6 : i + 6 ≤ L) {H : Heap} {locs : List Loc} {ls : Array Slot} {h : Nat → Int32} {nmn : Nat → Int32} {nms : Int32} {nsn : Nat → Int32} {nss : Int32} {nen : Nat → Int32} {nes : Int32} {nbk : Nat → Int32} {nbs : Int32} {np : Int32} {ne : Int32} {nM : Int32} {nwr : Int32} {nwp : Int32} {kmn : Nat → Int32} {kms : Int32} {ksn : Nat → Int32} {kss : Int32} {ken : Nat → Int32} {kes : Int32} {kbk : Nat → Int32} {kbs : Int32} {kp : Int32} {ke : Int32} {kM : Int32} {kwr : Int32} {kwp : Int32} {tmn : Nat → Int32} {tms : Int32} {tsn : Nat → Int32} {tss : Int32} {ten : Nat → Int32} {tes : Int32} {tbk : Nat → Int32} {tbs : Int32} {tp : Int32} {te : Int32} {tM : Int32} {twr : Int32} {twp : Int32} {tx : Nat → Int32} {len : Int32} {nx : Int32} {cn : Nat → Int32} {cs : Int32} {so : Nat → Int32} {le : Nat → Int32} {it : Nat → Int64} {hi : Int32} {g : Nat → Int32} {kg : Nat → Int32} {wg : Nat → Int32} {tri : Nat → Int32} {tb : Int32} {ty : Nat → Int32} {fd : Int32} {pl : Int32} {lt : Int32} {fs : Int32} {sc : Int32} {so2 : Nat → Int32} {sz : Nat → Int32} {it2 : Nat → Int64} {ik : Int32} (RH : HT h) (RO : OK (tri, tb)) (RS : SX nmn nms nsn nss nen nes nbk nbs np ne nM nwr nwp g) (RK : KX hi kmn kms ksn kss ken kes kbk kbs kp ke kM kwr kwp ik kg) (RR : RC tx len ty fd) (RT : TP so le it so2 sz it2) (hP : va_P (dC, dI) vwCl (wd cI cJ aX aM f k h nmn nms nsn nss nen nes nbk nbs np ne nM nwr nwp kmn kms ksn kss ken kes kbk kbs kp ke kM kwr kwp tmn tms tsn tss ten tes tbk tbs tp te tM twr twp tx len nx cn cs so le it hi g kg wg tri tb ty fd pl lt fs sc so2 sz it2 ik) H) (hS : va_S (fun q : Nat => s.heap.size ≤ q) s.heap H locs) (hl : lv_has ls 4 [(0, .ref b), (1, .ref aX), (2, .ref aM), (3, .int (nI i))]) (kk : INVK dC dI cI cJ aX aM f k (fun H => ∀ (locs : List Loc), va_S (fun q : Nat => s.heap.size ≤ q) s.heap H locs → W p l e room_1 s m #[Value.ref b] below meth c H locs 600000 7302250 (lw_Z below #[Value.ref b] s) (F0 m 1390 ls []))) : W p l e room_1 s m #[Value.ref b] below meth c H locs 600000 7302250 (lw_Z below #[Value.ref b] s) (F0 m 654 ls []) := by
  obtain ⟨hx, hb, hml, hown, hts, hX, hbl, hL, hE, hD, hZ, hXS⟩ := C
  have hA : ∀ q : Nat, s.heap.size ≤ q → (fun q : Nat => s.heap.size ≤ q) q := fun _ h => h
  have hbA : ¬ (fun q : Nat => s.heap.size ≤ q) b := Nat.not_le.mpr hbl
  obtain ⟨r, ⟨tri1, tb1⟩, RO1, e6, e7⟩ := pm_kind (t := (tri, tb)) RS RH RO (xs (i + 1)) (xs (i + 2))
  refine lv_aload_n hx hb dL_law_654 rfl (lv_at hl 1 rfl) ?_
  refine lv_aload_n hx hb dL_law_655 rfl (lv_at hl 0 rfl) ?_
  refine lv_iload_n hx hb dL_law_656 rfl (lv_at hl 3 rfl) ?_
  refine lv_iconst (v := (1 : Int32)) hx hb dL_law_657 (by decide) ?_
  refine lv_iadd hx hb dL_law_658 ?_
  refine va_sld hx hb hX hbl hbA hS (sx_i (x := (1 : Int32)) rfl (j := 1) (by omega) hL) dL_law_659 ?_
  refine tp_ (y := xs (i + 1)) (congrArg xs (sx_c (x := (1 : Int32)) rfl (j := 1) (by omega) hL).symm) ?_
  refine lv_aload_n hx hb dL_law_660 rfl (lv_at hl 0 rfl) ?_
  refine lv_iload_n hx hb dL_law_661 rfl (lv_at hl 3 rfl) ?_
  refine lv_iconst (v := (2 : Int32)) hx hb dL_law_662 (by decide) ?_
  refine lv_iadd hx hb dL_law_663 ?_
  refine va_sld hx hb hX hbl hbA hS (sx_i (x := (2 : Int32)) rfl (j := 2) (by omega) hL) dL_law_664 ?_
  refine tp_ (y := xs (i + 2)) (congrArg xs (sx_c (x := (2 : Int32)) rfl (j := 2) (by omega) hL).symm) ?_
  refine ro_V ⟨hx, hb, hml, hown, hts⟩ (k_X6_kind l dC dI cI cJ aX (f 0) (f 2) (f 11) (f 20) (f 29) (f 33) (f 1) (f 3) (f 5) (f 7) (f 9) (xs (i + 1)) (xs (i + 2)) hi h np ne nM nwr nwp _ e6) (cwV 2 hts gL_law_X6_kind rfl rfl rfl (by decide +kernel) ⟨Nat.le_of_ble_eq_true rfl, Nat.le_of_ble_eq_true rfl⟩) hE hP 0 rfl rfl rfl (hP.sub [0, 1, 2, 3] rfl) rfl hl.1 rfl (Nat.le_of_ble_eq_true rfl) dL_law_665 ⟨Nat.le_of_ble_eq_true rfl, Nat.le_of_ble_eq_true rfl⟩ ?_
  refine lv_aload_n hx hb dL_law_668 rfl (lv_at hl 2 rfl) ?_
  refine lv_aload_n hx hb dL_law_669 rfl (lv_at hl 0 rfl) ?_
  refine lv_iload_n hx hb dL_law_670 rfl (lv_at hl 3 rfl) ?_
  refine lv_iconst (v := (1 : Int32)) hx hb dL_law_671 (by decide) ?_
  refine lv_iadd hx hb dL_law_672 ?_
  refine va_sld hx hb hX hbl hbA hS (sx_i (x := (1 : Int32)) rfl (j := 1) (by omega) hL) dL_law_673 ?_
  refine tp_ (y := xs (i + 1)) (congrArg xs (sx_c (x := (1 : Int32)) rfl (j := 1) (by omega) hL).symm) ?_
  refine lv_aload_n hx hb dL_law_674 rfl (lv_at hl 0 rfl) ?_
  refine lv_iload_n hx hb dL_law_675 rfl (lv_at hl 3 rfl) ?_
  refine lv_iconst (v := (2 : Int32)) hx hb dL_law_676 (by decide) ?_
  refine lv_iadd hx hb dL_law_677 ?_
  refine va_sld hx hb hX hbl hbA hS (sx_i (x := (2 : Int32)) rfl (j := 2) (by omega) hL) dL_law_678 ?_
  refine tp_ (y := xs (i + 2)) (congrArg xs (sx_c (x := (2 : Int32)) rfl (j := 2) (by omega) hL).symm) ?_
  refine mu_X ⟨hx, hb, hml, hown, hts⟩ (k_X7_kind l dC dI cI cJ aM (k 0) (k 1) (k 2) (k 3) (k 4) (k 5) (k 6) (k 7) (xs (i + 1)) (xs (i + 2)) ik tb fd pl lt fs sc g tri H.size _ e7) (cwV 2 hts gL_law_X7_kind rfl rfl rfl (by decide +kernel) ⟨Nat.le_of_ble_eq_true rfl, Nat.le_of_ble_eq_true rfl⟩) hE 38 rfl rfl rfl rfl hl.1 rfl (Nat.le_of_ble_eq_true rfl) dL_law_679 ⟨Nat.le_of_ble_eq_true rfl, Nat.le_of_ble_eq_true rfl⟩ hP (hD.fst rfl) hS hA [false, false, false, false, false, false, false, false, false, false, false, false, false, false, false, false, false, false, false, false, false, false, false, false, false, false, false, false, false, false, false, false, false, false, false, false, false, false, true, true, false, false, true] rfl (W1 := wd cI cJ aX aM f k h nmn nms nsn nss nen nes nbk nbs np ne nM nwr nwp kmn kms ksn kss ken kes kbk kbs kp ke kM kwr kwp tmn tms tsn tss ten tes tbk tbs tp te tM twr twp tx len nx cn cs so le it hi g kg wg tri1 tb1 ty fd pl lt fs sc so2 sz it2 ik) rfl (fun H locs hP hS => W.eq (g2 := F0 m 682 ls [.int r, .int r]) rfl ?_)
  refine lv_icmp_eq (tgt := 1390) hx hb dL_law_682 (by decide) (fun _ => ?_) (fun q => absurd rfl q)
  exact kk h nmn nms nsn nss nen nes nbk nbs np ne nM nwr nwp kmn kms ksn kss ken kes kbk kbs kp ke kM kwr kwp tmn tms tsn tss ten tes tbk tbs tp te tM twr twp tx len nx cn cs so le it hi g kg wg tri1 tb1 ty fd pl lt fs sc so2 sz it2 ik _ RH RO1 RS RK RR RT hP _ hS
set_option maxHeartbeats 8000000 in
set_option maxRecDepth 100000 in
theorem lc_upTo {p : Program} {l : Launch} {e : Env} {s : State} {m : MethodId} {below : List Frame} {meth : Method} {c : Code} {dC : Nat → ClassId} {dI : Nat → Nat → Nat} {cI cJ : ClassId} {b L : Nat} {xs : Nat → Int32} {aX aM aS : Nat} {f k : Nat → Nat} (C : LC p l e s m meth c dC dI cI cJ b L xs aX aM aS f k) {i : Nat} (hi6 : i + 6 ≤ L) {H : Heap} {locs : List Loc} {ls : Array Slot} {h : Nat → Int32} {nmn : Nat → Int32} {nms : Int32} {nsn : Nat → Int32} {nss : Int32} {nen : Nat → Int32} {nes : Int32} {nbk : Nat → Int32} {nbs : Int32} {np : Int32} {ne : Int32} {nM : Int32} {nwr : Int32} {nwp : Int32} {kmn : Nat → Int32} {kms : Int32} {ksn : Nat → Int32} {kss : Int32} {ken : Nat → Int32} {kes : Int32} {kbk : Nat → Int32} {kbs : Int32} {kp : Int32} {ke : Int32} {kM : Int32} {kwr : Int32} {kwp : Int32} {tmn : Nat → Int32} {tms : Int32} {tsn : Nat → Int32} {tss : Int32} {ten : Nat → Int32} {tes : Int32} {tbk : Nat → Int32} {tbs : Int32} {tp : Int32} {te : Int32} {tM : Int32} {twr : Int32} {twp : Int32} {tx : Nat → Int32} {len : Int32} {nx : Int32} {cn : Nat → Int32} {cs : Int32} {so : Nat → Int32} {le : Nat → Int32} {it : Nat → Int64} {hi : Int32} {g : Nat → Int32} {kg : Nat → Int32} {wg : Nat → Int32} {tri : Nat → Int32} {tb : Int32} {ty : Nat → Int32} {fd : Int32} {pl : Int32} {lt : Int32} {fs : Int32} {sc : Int32} {so2 : Nat → Int32} {sz : Nat → Int32} {it2 : Nat → Int64} {ik : Int32} (RH : HT h) (RO : OK (tri, tb)) (RS : SX nmn nms nsn nss nen nes nbk nbs np ne nM nwr nwp g) (RK : KX hi kmn kms ksn kss ken kes kbk kbs kp ke kM kwr kwp ik kg) (RR : RC tx len ty fd) (RT : TP so le it so2 sz it2) (hP : va_P (dC, dI) vwCl (wd cI cJ aX aM f k h nmn nms nsn nss nen nes nbk nbs np ne nM nwr nwp kmn kms ksn kss ken kes kbk kbs kp ke kM kwr kwp tmn tms tsn tss ten tes tbk tbs tp te tM twr twp tx len nx cn cs so le it hi g kg wg tri tb ty fd pl lt fs sc so2 sz it2 ik) H) (hS : va_S (fun q : Nat => s.heap.size ≤ q) s.heap H locs) (hl : lv_has ls 4 [(0, .ref b), (1, .ref aX), (2, .ref aM), (3, .int (nI i))]) (kk : INVK dC dI cI cJ aX aM f k (fun H => ∀ (locs : List Loc), va_S (fun q : Nat => s.heap.size ≤ q) s.heap H locs → W p l e room_1 s m #[Value.ref b] below meth c H locs 600000 7302250 (lw_Z below #[Value.ref b] s) (F0 m 1390 ls []))) : W p l e room_1 s m #[Value.ref b] below meth c H locs 600000 7302250 (lw_Z below #[Value.ref b] s) (F0 m 687 ls []) := by
  obtain ⟨hx, hb, hml, hown, hts, hX, hbl, hL, hE, hD, hZ, hXS⟩ := C
  have hA : ∀ q : Nat, s.heap.size ≤ q → (fun q : Nat => s.heap.size ≤ q) q := fun _ h => h
  have hbA : ¬ (fun q : Nat => s.heap.size ≤ q) b := Nat.not_le.mpr hbl
  obtain ⟨r, ⟨tri1, tb1⟩, RO1, e6, e7⟩ := pm_upTo (t := (tri, tb)) RS RH RO (xs (i + 1)) (xs (i + 2))
  refine lv_aload_n hx hb dL_law_687 rfl (lv_at hl 1 rfl) ?_
  refine lv_aload_n hx hb dL_law_688 rfl (lv_at hl 0 rfl) ?_
  refine lv_iload_n hx hb dL_law_689 rfl (lv_at hl 3 rfl) ?_
  refine lv_iconst (v := (1 : Int32)) hx hb dL_law_690 (by decide) ?_
  refine lv_iadd hx hb dL_law_691 ?_
  refine va_sld hx hb hX hbl hbA hS (sx_i (x := (1 : Int32)) rfl (j := 1) (by omega) hL) dL_law_692 ?_
  refine tp_ (y := xs (i + 1)) (congrArg xs (sx_c (x := (1 : Int32)) rfl (j := 1) (by omega) hL).symm) ?_
  refine lv_aload_n hx hb dL_law_693 rfl (lv_at hl 0 rfl) ?_
  refine lv_iload_n hx hb dL_law_694 rfl (lv_at hl 3 rfl) ?_
  refine lv_iconst (v := (2 : Int32)) hx hb dL_law_695 (by decide) ?_
  refine lv_iadd hx hb dL_law_696 ?_
  refine va_sld hx hb hX hbl hbA hS (sx_i (x := (2 : Int32)) rfl (j := 2) (by omega) hL) dL_law_697 ?_
  refine tp_ (y := xs (i + 2)) (congrArg xs (sx_c (x := (2 : Int32)) rfl (j := 2) (by omega) hL).symm) ?_
  refine ro_V ⟨hx, hb, hml, hown, hts⟩ (k_X6_upTo l dC dI cI cJ aX (f 0) (f 2) (f 11) (f 20) (f 29) (f 33) (f 1) (f 3) (f 5) (f 7) (f 9) (xs (i + 1)) (xs (i + 2)) hi h np ne nM nwr nwp _ e6) (cwV 2 hts gL_law_X6_upTo rfl rfl rfl (by decide +kernel) ⟨Nat.le_of_ble_eq_true rfl, Nat.le_of_ble_eq_true rfl⟩) hE hP 0 rfl rfl rfl (hP.sub [0, 1, 2, 3] rfl) rfl hl.1 rfl (Nat.le_of_ble_eq_true rfl) dL_law_698 ⟨Nat.le_of_ble_eq_true rfl, Nat.le_of_ble_eq_true rfl⟩ ?_
  refine lv_aload_n hx hb dL_law_701 rfl (lv_at hl 2 rfl) ?_
  refine lv_aload_n hx hb dL_law_702 rfl (lv_at hl 0 rfl) ?_
  refine lv_iload_n hx hb dL_law_703 rfl (lv_at hl 3 rfl) ?_
  refine lv_iconst (v := (1 : Int32)) hx hb dL_law_704 (by decide) ?_
  refine lv_iadd hx hb dL_law_705 ?_
  refine va_sld hx hb hX hbl hbA hS (sx_i (x := (1 : Int32)) rfl (j := 1) (by omega) hL) dL_law_706 ?_
  refine tp_ (y := xs (i + 1)) (congrArg xs (sx_c (x := (1 : Int32)) rfl (j := 1) (by omega) hL).symm) ?_
  refine lv_aload_n hx hb dL_law_707 rfl (lv_at hl 0 rfl) ?_
  refine lv_iload_n hx hb dL_law_708 rfl (lv_at hl 3 rfl) ?_
  refine lv_iconst (v := (2 : Int32)) hx hb dL_law_709 (by decide) ?_
  refine lv_iadd hx hb dL_law_710 ?_
  refine va_sld hx hb hX hbl hbA hS (sx_i (x := (2 : Int32)) rfl (j := 2) (by omega) hL) dL_law_711 ?_
  refine tp_ (y := xs (i + 2)) (congrArg xs (sx_c (x := (2 : Int32)) rfl (j := 2) (by omega) hL).symm) ?_
  refine mu_X ⟨hx, hb, hml, hown, hts⟩ (k_X7_upTo l dC dI cI cJ aM (k 0) (k 1) (k 2) (k 3) (k 4) (k 5) (k 6) (k 7) (xs (i + 1)) (xs (i + 2)) ik tb fd pl lt fs sc g tri H.size _ e7) (cwV 2 hts gL_law_X7_upTo rfl rfl rfl (by decide +kernel) ⟨Nat.le_of_ble_eq_true rfl, Nat.le_of_ble_eq_true rfl⟩) hE 38 rfl rfl rfl rfl hl.1 rfl (Nat.le_of_ble_eq_true rfl) dL_law_712 ⟨Nat.le_of_ble_eq_true rfl, Nat.le_of_ble_eq_true rfl⟩ hP (hD.fst rfl) hS hA [false, false, false, false, false, false, false, false, false, false, false, false, false, false, false, false, false, false, false, false, false, false, false, false, false, false, false, false, false, false, false, false, false, false, false, false, false, false, true, true, false, false, true] rfl (W1 := wd cI cJ aX aM f k h nmn nms nsn nss nen nes nbk nbs np ne nM nwr nwp kmn kms ksn kss ken kes kbk kbs kp ke kM kwr kwp tmn tms tsn tss ten tes tbk tbs tp te tM twr twp tx len nx cn cs so le it hi g kg wg tri1 tb1 ty fd pl lt fs sc so2 sz it2 ik) rfl (fun H locs hP hS => W.eq (g2 := F0 m 715 ls [.int r, .int r]) rfl ?_)
  refine lv_icmp_eq (tgt := 1390) hx hb dL_law_715 (by decide) (fun _ => ?_) (fun q => absurd rfl q)
  exact kk h nmn nms nsn nss nen nes nbk nbs np ne nM nwr nwp kmn kms ksn kss ken kes kbk kbs kp ke kM kwr kwp tmn tms tsn tss ten tes tbk tbs tp te tM twr twp tx len nx cn cs so le it hi g kg wg tri1 tb1 ty fd pl lt fs sc so2 sz it2 ik _ RH RO1 RS RK RR RT hP _ hS
set_option maxHeartbeats 8000000 in
set_option maxRecDepth 100000 in
theorem lc_picture {p : Program} {l : Launch} {e : Env} {s : State} {m : MethodId} {below : List Frame} {meth : Method} {c : Code} {dC : Nat → ClassId} {dI : Nat → Nat → Nat} {cI cJ : ClassId} {b L : Nat} {xs : Nat → Int32} {aX aM aS : Nat} {f k : Nat → Nat} (C : LC p l e s m meth c dC dI cI cJ b L xs aX aM aS f k) {i : Nat} (hi6 : i + 6 ≤ L) {H : Heap} {locs : List Loc} {ls : Array Slot} {h : Nat → Int32} {nmn : Nat → Int32} {nms : Int32} {nsn : Nat → Int32} {nss : Int32} {nen : Nat → Int32} {nes : Int32} {nbk : Nat → Int32} {nbs : Int32} {np : Int32} {ne : Int32} {nM : Int32} {nwr : Int32} {nwp : Int32} {kmn : Nat → Int32} {kms : Int32} {ksn : Nat → Int32} {kss : Int32} {ken : Nat → Int32} {kes : Int32} {kbk : Nat → Int32} {kbs : Int32} {kp : Int32} {ke : Int32} {kM : Int32} {kwr : Int32} {kwp : Int32} {tmn : Nat → Int32} {tms : Int32} {tsn : Nat → Int32} {tss : Int32} {ten : Nat → Int32} {tes : Int32} {tbk : Nat → Int32} {tbs : Int32} {tp : Int32} {te : Int32} {tM : Int32} {twr : Int32} {twp : Int32} {tx : Nat → Int32} {len : Int32} {nx : Int32} {cn : Nat → Int32} {cs : Int32} {so : Nat → Int32} {le : Nat → Int32} {it : Nat → Int64} {hi : Int32} {g : Nat → Int32} {kg : Nat → Int32} {wg : Nat → Int32} {tri : Nat → Int32} {tb : Int32} {ty : Nat → Int32} {fd : Int32} {pl : Int32} {lt : Int32} {fs : Int32} {sc : Int32} {so2 : Nat → Int32} {sz : Nat → Int32} {it2 : Nat → Int64} {ik : Int32} (RH : HT h) (RO : OK (tri, tb)) (RS : SX nmn nms nsn nss nen nes nbk nbs np ne nM nwr nwp g) (RK : KX hi kmn kms ksn kss ken kes kbk kbs kp ke kM kwr kwp ik kg) (RR : RC tx len ty fd) (RT : TP so le it so2 sz it2) (hP : va_P (dC, dI) vwCl (wd cI cJ aX aM f k h nmn nms nsn nss nen nes nbk nbs np ne nM nwr nwp kmn kms ksn kss ken kes kbk kbs kp ke kM kwr kwp tmn tms tsn tss ten tes tbk tbs tp te tM twr twp tx len nx cn cs so le it hi g kg wg tri tb ty fd pl lt fs sc so2 sz it2 ik) H) (hS : va_S (fun q : Nat => s.heap.size ≤ q) s.heap H locs) (hl : lv_has ls 4 [(0, .ref b), (1, .ref aX), (2, .ref aM), (3, .int (nI i))]) (kk : INVK dC dI cI cJ aX aM f k (fun H => ∀ (locs : List Loc), va_S (fun q : Nat => s.heap.size ≤ q) s.heap H locs → W p l e room_1 s m #[Value.ref b] below meth c H locs 600000 7302250 (lw_Z below #[Value.ref b] s) (F0 m 1390 ls []))) : W p l e room_1 s m #[Value.ref b] below meth c H locs 600000 7302250 (lw_Z below #[Value.ref b] s) (F0 m 720 ls []) := by
  obtain ⟨hx, hb, hml, hown, hts, hX, hbl, hL, hE, hD, hZ, hXS⟩ := C
  have hA : ∀ q : Nat, s.heap.size ≤ q → (fun q : Nat => s.heap.size ≤ q) q := fun _ h => h
  have hbA : ¬ (fun q : Nat => s.heap.size ≤ q) b := Nat.not_le.mpr hbl
  obtain ⟨r, ⟨tri1, tb1⟩, RO1, e6, e7⟩ := pm_picture (t := (tri, tb)) RS RH RO (xs (i + 1))
  refine lv_aload_n hx hb dL_law_720 rfl (lv_at hl 1 rfl) ?_
  refine lv_aload_n hx hb dL_law_721 rfl (lv_at hl 0 rfl) ?_
  refine lv_iload_n hx hb dL_law_722 rfl (lv_at hl 3 rfl) ?_
  refine lv_iconst (v := (1 : Int32)) hx hb dL_law_723 (by decide) ?_
  refine lv_iadd hx hb dL_law_724 ?_
  refine va_sld hx hb hX hbl hbA hS (sx_i (x := (1 : Int32)) rfl (j := 1) (by omega) hL) dL_law_725 ?_
  refine tp_ (y := xs (i + 1)) (congrArg xs (sx_c (x := (1 : Int32)) rfl (j := 1) (by omega) hL).symm) ?_
  refine ro_V ⟨hx, hb, hml, hown, hts⟩ (k_X6_picture l dC dI cI cJ aX (f 0) (f 2) (f 11) (f 20) (f 29) (f 33) (f 1) (f 3) (f 5) (f 7) (f 9) (f 4) (xs (i + 1)) hi h np ne nM nwr nwp nms nmn _ e6) (cwV 1 hts gL_law_X6_picture rfl rfl rfl (by decide +kernel) ⟨Nat.le_of_ble_eq_true rfl, Nat.le_of_ble_eq_true rfl⟩) hE hP 0 rfl rfl rfl (hP.sub [0, 1, 2, 3, 4, 5] rfl) rfl hl.1 rfl (Nat.le_of_ble_eq_true rfl) dL_law_726 ⟨Nat.le_of_ble_eq_true rfl, Nat.le_of_ble_eq_true rfl⟩ ?_
  refine lv_aload_n hx hb dL_law_729 rfl (lv_at hl 2 rfl) ?_
  refine lv_aload_n hx hb dL_law_730 rfl (lv_at hl 0 rfl) ?_
  refine lv_iload_n hx hb dL_law_731 rfl (lv_at hl 3 rfl) ?_
  refine lv_iconst (v := (1 : Int32)) hx hb dL_law_732 (by decide) ?_
  refine lv_iadd hx hb dL_law_733 ?_
  refine va_sld hx hb hX hbl hbA hS (sx_i (x := (1 : Int32)) rfl (j := 1) (by omega) hL) dL_law_734 ?_
  refine tp_ (y := xs (i + 1)) (congrArg xs (sx_c (x := (1 : Int32)) rfl (j := 1) (by omega) hL).symm) ?_
  refine mu_X ⟨hx, hb, hml, hown, hts⟩ (k_X7_picture l dC dI cI cJ aM (k 0) (k 1) (k 2) (k 3) (k 4) (k 5) (k 6) (k 7) (xs (i + 1)) ik tb fd pl lt fs sc g tri H.size _ e7) (cwV 1 hts gL_law_X7_picture rfl rfl rfl (by decide +kernel) ⟨Nat.le_of_ble_eq_true rfl, Nat.le_of_ble_eq_true rfl⟩) hE 38 rfl rfl rfl rfl hl.1 rfl (Nat.le_of_ble_eq_true rfl) dL_law_735 ⟨Nat.le_of_ble_eq_true rfl, Nat.le_of_ble_eq_true rfl⟩ hP (hD.fst rfl) hS hA [false, false, false, false, false, false, false, false, false, false, false, false, false, false, false, false, false, false, false, false, false, false, false, false, false, false, false, false, false, false, false, false, false, false, false, false, false, false, true, true, false, false, true] rfl (W1 := wd cI cJ aX aM f k h nmn nms nsn nss nen nes nbk nbs np ne nM nwr nwp kmn kms ksn kss ken kes kbk kbs kp ke kM kwr kwp tmn tms tsn tss ten tes tbk tbs tp te tM twr twp tx len nx cn cs so le it hi g kg wg tri1 tb1 ty fd pl lt fs sc so2 sz it2 ik) rfl (fun H locs hP hS => W.eq (g2 := F0 m 738 ls [.int r, .int r]) rfl ?_)
  refine lv_icmp_eq (tgt := 1390) hx hb dL_law_738 (by decide) (fun _ => ?_) (fun q => absurd rfl q)
  exact kk h nmn nms nsn nss nen nes nbk nbs np ne nM nwr nwp kmn kms ksn kss ken kes kbk kbs kp ke kM kwr kwp tmn tms tsn tss ten tes tbk tbs tp te tM twr twp tx len nx cn cs so le it hi g kg wg tri1 tb1 ty fd pl lt fs sc so2 sz it2 ik _ RH RO1 RS RK RR RT hP _ hS
set_option maxHeartbeats 8000000 in
set_option maxRecDepth 100000 in
theorem lc_like {p : Program} {l : Launch} {e : Env} {s : State} {m : MethodId} {below : List Frame} {meth : Method} {c : Code} {dC : Nat → ClassId} {dI : Nat → Nat → Nat} {cI cJ : ClassId} {b L : Nat} {xs : Nat → Int32} {aX aM aS : Nat} {f k : Nat → Nat} (C : LC p l e s m meth c dC dI cI cJ b L xs aX aM aS f k) {i : Nat} (hi6 : i + 6 ≤ L) {H : Heap} {locs : List Loc} {ls : Array Slot} {h : Nat → Int32} {nmn : Nat → Int32} {nms : Int32} {nsn : Nat → Int32} {nss : Int32} {nen : Nat → Int32} {nes : Int32} {nbk : Nat → Int32} {nbs : Int32} {np : Int32} {ne : Int32} {nM : Int32} {nwr : Int32} {nwp : Int32} {kmn : Nat → Int32} {kms : Int32} {ksn : Nat → Int32} {kss : Int32} {ken : Nat → Int32} {kes : Int32} {kbk : Nat → Int32} {kbs : Int32} {kp : Int32} {ke : Int32} {kM : Int32} {kwr : Int32} {kwp : Int32} {tmn : Nat → Int32} {tms : Int32} {tsn : Nat → Int32} {tss : Int32} {ten : Nat → Int32} {tes : Int32} {tbk : Nat → Int32} {tbs : Int32} {tp : Int32} {te : Int32} {tM : Int32} {twr : Int32} {twp : Int32} {tx : Nat → Int32} {len : Int32} {nx : Int32} {cn : Nat → Int32} {cs : Int32} {so : Nat → Int32} {le : Nat → Int32} {it : Nat → Int64} {hi : Int32} {g : Nat → Int32} {kg : Nat → Int32} {wg : Nat → Int32} {tri : Nat → Int32} {tb : Int32} {ty : Nat → Int32} {fd : Int32} {pl : Int32} {lt : Int32} {fs : Int32} {sc : Int32} {so2 : Nat → Int32} {sz : Nat → Int32} {it2 : Nat → Int64} {ik : Int32} (RH : HT h) (RO : OK (tri, tb)) (RS : SX nmn nms nsn nss nen nes nbk nbs np ne nM nwr nwp g) (RK : KX hi kmn kms ksn kss ken kes kbk kbs kp ke kM kwr kwp ik kg) (RR : RC tx len ty fd) (RT : TP so le it so2 sz it2) (hP : va_P (dC, dI) vwCl (wd cI cJ aX aM f k h nmn nms nsn nss nen nes nbk nbs np ne nM nwr nwp kmn kms ksn kss ken kes kbk kbs kp ke kM kwr kwp tmn tms tsn tss ten tes tbk tbs tp te tM twr twp tx len nx cn cs so le it hi g kg wg tri tb ty fd pl lt fs sc so2 sz it2 ik) H) (hS : va_S (fun q : Nat => s.heap.size ≤ q) s.heap H locs) (hl : lv_has ls 4 [(0, .ref b), (1, .ref aX), (2, .ref aM), (3, .int (nI i))]) (kk : INVK dC dI cI cJ aX aM f k (fun H => ∀ (locs : List Loc), va_S (fun q : Nat => s.heap.size ≤ q) s.heap H locs → W p l e room_1 s m #[Value.ref b] below meth c H locs 600000 7302250 (lw_Z below #[Value.ref b] s) (F0 m 1390 ls []))) : W p l e room_1 s m #[Value.ref b] below meth c H locs 600000 7302250 (lw_Z below #[Value.ref b] s) (F0 m 743 ls []) := by
  obtain ⟨hx, hb, hml, hown, hts, hX, hbl, hL, hE, hD, hZ, hXS⟩ := C
  have hA : ∀ q : Nat, s.heap.size ≤ q → (fun q : Nat => s.heap.size ≤ q) q := fun _ h => h
  have hbA : ¬ (fun q : Nat => s.heap.size ≤ q) b := Nat.not_le.mpr hbl
  obtain ⟨r, ⟨tri1, tb1⟩, RO1, e6, e7⟩ := pm_like (t := (tri, tb)) RS RH RO (xs (i + 1)) (xs (i + 2)) (xs (i + 3)) (xs (i + 4)) (xs (i + 5))
  refine lv_aload_n hx hb dL_law_743 rfl (lv_at hl 1 rfl) ?_
  refine lv_aload_n hx hb dL_law_744 rfl (lv_at hl 0 rfl) ?_
  refine lv_iload_n hx hb dL_law_745 rfl (lv_at hl 3 rfl) ?_
  refine lv_iconst (v := (1 : Int32)) hx hb dL_law_746 (by decide) ?_
  refine lv_iadd hx hb dL_law_747 ?_
  refine va_sld hx hb hX hbl hbA hS (sx_i (x := (1 : Int32)) rfl (j := 1) (by omega) hL) dL_law_748 ?_
  refine tp_ (y := xs (i + 1)) (congrArg xs (sx_c (x := (1 : Int32)) rfl (j := 1) (by omega) hL).symm) ?_
  refine lv_aload_n hx hb dL_law_749 rfl (lv_at hl 0 rfl) ?_
  refine lv_iload_n hx hb dL_law_750 rfl (lv_at hl 3 rfl) ?_
  refine lv_iconst (v := (2 : Int32)) hx hb dL_law_751 (by decide) ?_
  refine lv_iadd hx hb dL_law_752 ?_
  refine va_sld hx hb hX hbl hbA hS (sx_i (x := (2 : Int32)) rfl (j := 2) (by omega) hL) dL_law_753 ?_
  refine tp_ (y := xs (i + 2)) (congrArg xs (sx_c (x := (2 : Int32)) rfl (j := 2) (by omega) hL).symm) ?_
  refine lv_aload_n hx hb dL_law_754 rfl (lv_at hl 0 rfl) ?_
  refine lv_iload_n hx hb dL_law_755 rfl (lv_at hl 3 rfl) ?_
  refine lv_iconst (v := (3 : Int32)) hx hb dL_law_756 (by decide) ?_
  refine lv_iadd hx hb dL_law_757 ?_
  refine va_sld hx hb hX hbl hbA hS (sx_i (x := (3 : Int32)) rfl (j := 3) (by omega) hL) dL_law_758 ?_
  refine tp_ (y := xs (i + 3)) (congrArg xs (sx_c (x := (3 : Int32)) rfl (j := 3) (by omega) hL).symm) ?_
  refine lv_aload_n hx hb dL_law_759 rfl (lv_at hl 0 rfl) ?_
  refine lv_iload_n hx hb dL_law_760 rfl (lv_at hl 3 rfl) ?_
  refine lv_iconst (v := (4 : Int32)) hx hb dL_law_761 (by decide) ?_
  refine lv_iadd hx hb dL_law_762 ?_
  refine va_sld hx hb hX hbl hbA hS (sx_i (x := (4 : Int32)) rfl (j := 4) (by omega) hL) dL_law_763 ?_
  refine tp_ (y := xs (i + 4)) (congrArg xs (sx_c (x := (4 : Int32)) rfl (j := 4) (by omega) hL).symm) ?_
  refine lv_aload_n hx hb dL_law_764 rfl (lv_at hl 0 rfl) ?_
  refine lv_iload_n hx hb dL_law_765 rfl (lv_at hl 3 rfl) ?_
  refine lv_iconst (v := (5 : Int32)) hx hb dL_law_766 (by decide) ?_
  refine lv_iadd hx hb dL_law_767 ?_
  refine va_sld hx hb hX hbl hbA hS (sx_i (x := (5 : Int32)) rfl (j := 5) (by omega) hL) dL_law_768 ?_
  refine tp_ (y := xs (i + 5)) (congrArg xs (sx_c (x := (5 : Int32)) rfl (j := 5) (by omega) hL).symm) ?_
  refine ro_V ⟨hx, hb, hml, hown, hts⟩ (k_X6_like l dC dI cI cJ aX (f 0) (f 2) (f 11) (f 20) (f 29) (f 33) (f 1) (f 3) (f 5) (f 7) (f 9) (xs (i + 1)) (xs (i + 2)) (xs (i + 3)) (xs (i + 4)) (xs (i + 5)) hi h np ne nM nwr nwp _ e6) (cwV 5 hts gL_law_X6_like rfl rfl rfl (by decide +kernel) ⟨Nat.le_of_ble_eq_true rfl, Nat.le_of_ble_eq_true rfl⟩) hE hP 0 rfl rfl rfl (hP.sub [0, 1, 2, 3] rfl) rfl hl.1 rfl (Nat.le_of_ble_eq_true rfl) dL_law_769 ⟨Nat.le_of_ble_eq_true rfl, Nat.le_of_ble_eq_true rfl⟩ ?_
  refine lv_aload_n hx hb dL_law_772 rfl (lv_at hl 2 rfl) ?_
  refine lv_aload_n hx hb dL_law_773 rfl (lv_at hl 0 rfl) ?_
  refine lv_iload_n hx hb dL_law_774 rfl (lv_at hl 3 rfl) ?_
  refine lv_iconst (v := (1 : Int32)) hx hb dL_law_775 (by decide) ?_
  refine lv_iadd hx hb dL_law_776 ?_
  refine va_sld hx hb hX hbl hbA hS (sx_i (x := (1 : Int32)) rfl (j := 1) (by omega) hL) dL_law_777 ?_
  refine tp_ (y := xs (i + 1)) (congrArg xs (sx_c (x := (1 : Int32)) rfl (j := 1) (by omega) hL).symm) ?_
  refine lv_aload_n hx hb dL_law_778 rfl (lv_at hl 0 rfl) ?_
  refine lv_iload_n hx hb dL_law_779 rfl (lv_at hl 3 rfl) ?_
  refine lv_iconst (v := (2 : Int32)) hx hb dL_law_780 (by decide) ?_
  refine lv_iadd hx hb dL_law_781 ?_
  refine va_sld hx hb hX hbl hbA hS (sx_i (x := (2 : Int32)) rfl (j := 2) (by omega) hL) dL_law_782 ?_
  refine tp_ (y := xs (i + 2)) (congrArg xs (sx_c (x := (2 : Int32)) rfl (j := 2) (by omega) hL).symm) ?_
  refine lv_aload_n hx hb dL_law_783 rfl (lv_at hl 0 rfl) ?_
  refine lv_iload_n hx hb dL_law_784 rfl (lv_at hl 3 rfl) ?_
  refine lv_iconst (v := (3 : Int32)) hx hb dL_law_785 (by decide) ?_
  refine lv_iadd hx hb dL_law_786 ?_
  refine va_sld hx hb hX hbl hbA hS (sx_i (x := (3 : Int32)) rfl (j := 3) (by omega) hL) dL_law_787 ?_
  refine tp_ (y := xs (i + 3)) (congrArg xs (sx_c (x := (3 : Int32)) rfl (j := 3) (by omega) hL).symm) ?_
  refine lv_aload_n hx hb dL_law_788 rfl (lv_at hl 0 rfl) ?_
  refine lv_iload_n hx hb dL_law_789 rfl (lv_at hl 3 rfl) ?_
  refine lv_iconst (v := (4 : Int32)) hx hb dL_law_790 (by decide) ?_
  refine lv_iadd hx hb dL_law_791 ?_
  refine va_sld hx hb hX hbl hbA hS (sx_i (x := (4 : Int32)) rfl (j := 4) (by omega) hL) dL_law_792 ?_
  refine tp_ (y := xs (i + 4)) (congrArg xs (sx_c (x := (4 : Int32)) rfl (j := 4) (by omega) hL).symm) ?_
  refine lv_aload_n hx hb dL_law_793 rfl (lv_at hl 0 rfl) ?_
  refine lv_iload_n hx hb dL_law_794 rfl (lv_at hl 3 rfl) ?_
  refine lv_iconst (v := (5 : Int32)) hx hb dL_law_795 (by decide) ?_
  refine lv_iadd hx hb dL_law_796 ?_
  refine va_sld hx hb hX hbl hbA hS (sx_i (x := (5 : Int32)) rfl (j := 5) (by omega) hL) dL_law_797 ?_
  refine tp_ (y := xs (i + 5)) (congrArg xs (sx_c (x := (5 : Int32)) rfl (j := 5) (by omega) hL).symm) ?_
  refine mu_X ⟨hx, hb, hml, hown, hts⟩ (k_X7_like l dC dI cI cJ aM (k 0) (k 1) (k 2) (k 3) (k 4) (k 5) (k 6) (k 7) (xs (i + 1)) (xs (i + 2)) (xs (i + 3)) (xs (i + 4)) (xs (i + 5)) ik tb fd pl lt fs sc g tri H.size _ e7) (cwV 5 hts gL_law_X7_like rfl rfl rfl (by decide +kernel) ⟨Nat.le_of_ble_eq_true rfl, Nat.le_of_ble_eq_true rfl⟩) hE 38 rfl rfl rfl rfl hl.1 rfl (Nat.le_of_ble_eq_true rfl) dL_law_798 ⟨Nat.le_of_ble_eq_true rfl, Nat.le_of_ble_eq_true rfl⟩ hP (hD.fst rfl) hS hA [false, false, false, false, false, false, false, false, false, false, false, false, false, false, false, false, false, false, false, false, false, false, false, false, false, false, false, false, false, false, false, false, false, false, false, false, false, false, true, true, false, false, true] rfl (W1 := wd cI cJ aX aM f k h nmn nms nsn nss nen nes nbk nbs np ne nM nwr nwp kmn kms ksn kss ken kes kbk kbs kp ke kM kwr kwp tmn tms tsn tss ten tes tbk tbs tp te tM twr twp tx len nx cn cs so le it hi g kg wg tri1 tb1 ty fd pl lt fs sc so2 sz it2 ik) rfl (fun H locs hP hS => W.eq (g2 := F0 m 801 ls [.int r, .int r]) rfl ?_)
  refine lv_icmp_eq (tgt := 1390) hx hb dL_law_801 (by decide) (fun _ => ?_) (fun q => absurd rfl q)
  exact kk h nmn nms nsn nss nen nes nbk nbs np ne nM nwr nwp kmn kms ksn kss ken kes kbk kbs kp ke kM kwr kwp tmn tms tsn tss ten tes tbk tbs tp te tM twr twp tx len nx cn cs so le it hi g kg wg tri1 tb1 ty fd pl lt fs sc so2 sz it2 ik _ RH RO1 RS RK RR RT hP _ hS
