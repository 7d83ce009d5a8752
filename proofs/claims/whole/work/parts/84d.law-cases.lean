/-! the law's cases, by program -/
set_option maxHeartbeats 8000000 in
set_option maxRecDepth 100000 in
theorem lc_image {p : Program} {l : Launch} {e : Env} {s : State} {m : MethodId} {below : List Frame} {meth : Method} {c : Code} {dC : Nat → ClassId} {dI : Nat → Nat → Nat} {cI cJ : ClassId} {b L : Nat} {xs : Nat → Int32} {aX aM aS : Nat} {f k : Nat → Nat} (C : LC p l e s m meth c dC dI cI cJ b L xs aX aM aS f k) {i : Nat} (hi6 : i + 6 ≤ L) {H : Heap} {locs : List Loc} {ls : Array Slot} {h : Nat → Int32} {nmn : Nat → Int32} {nms : Int32} {nsn : Nat → Int32} {nss : Int32} {nen : Nat → Int32} {nes : Int32} {nbk : Nat → Int32} {nbs : Int32} {np : Int32} {ne : Int32} {nM : Int32} {nwr : Int32} {nwp : Int32} {kmn : Nat → Int32} {kms : Int32} {ksn : Nat → Int32} {kss : Int32} {ken : Nat → Int32} {kes : Int32} {kbk : Nat → Int32} {kbs : Int32} {kp : Int32} {ke : Int32} {kM : Int32} {kwr : Int32} {kwp : Int32} {tmn : Nat → Int32} {tms : Int32} {tsn : Nat → Int32} {tss : Int32} {ten : Nat → Int32} {tes : Int32} {tbk : Nat → Int32} {tbs : Int32} {tp : Int32} {te : Int32} {tM : Int32} {twr : Int32} {twp : Int32} {tx : Nat → Int32} {len : Int32} {nx : Int32} {cn : Nat → Int32} {cs : Int32} {so : Nat → Int32} {le : Nat → Int32} {it : Nat → Int64} {hi : Int32} {g : Nat → Int32} {kg : Nat → Int32} {wg : Nat → Int32} {tri : Nat → Int32} {tb : Int32} {ty : Nat → Int32} {fd : Int32} {pl : Int32} {lt : Int32} {fs : Int32} {sc : Int32} {so2 : Nat → Int32} {sz : Nat → Int32} {it2 : Nat → Int64} {ik : Int32} (RH : HT h) (RO : OK (tri, tb)) (RS : SX nmn nms nsn nss nen nes nbk nbs np ne nM nwr nwp g) (RK : KX hi kmn kms ksn kss ken kes kbk kbs kp ke kM kwr kwp ik kg) (RR : RC tx len ty fd) (RT : TP so le it so2 sz it2) (hP : va_P (dC, dI) vwCl (wd cI cJ aX aM f k h nmn nms nsn nss nen nes nbk nbs np ne nM nwr nwp kmn kms ksn kss ken kes kbk kbs kp ke kM kwr kwp tmn tms tsn tss ten tes tbk tbs tp te tM twr twp tx len nx cn cs so le it hi g kg wg tri tb ty fd pl lt fs sc so2 sz it2 ik) H) (hS : va_S (fun q : Nat => s.heap.size ≤ q) s.heap H locs) (hl : lv_has ls 4 [(0, .ref b), (1, .ref aX), (2, .ref aM), (3, .int (nI i))]) (kk : INVK dC dI cI cJ aX aM f k (fun H => ∀ (locs : List Loc), va_S (fun q : Nat => s.heap.size ≤ q) s.heap H locs → W p l e room_1 s m #[Value.ref b] below meth c H locs 600000 7302250 (lw_Z below #[Value.ref b] s) (F0 m 1390 ls []))) : W p l e room_1 s m #[Value.ref b] below meth c H locs 600000 7302250 (lw_Z below #[Value.ref b] s) (F0 m 1128 ls []) := by
  obtain ⟨hx, hb, hml, hown, hts, hX, hbl, hL, hE, hD, hZ, hXS⟩ := C
  have hA : ∀ q : Nat, s.heap.size ≤ q → (fun q : Nat => s.heap.size ≤ q) q := fun _ h => h
  have hbA : ¬ (fun q : Nat => s.heap.size ≤ q) b := Nat.not_le.mpr hbl
  obtain ⟨r, kmn1, kms1, ksn1, kss1, ken1, kes1, kbk1, kbs1, kp1, ke1, kM1, kwr1, kwp1, hi1, kg1, ik1, RK1, e6, e7⟩ := pm_image (kmn := kmn) (kms := kms) (ksn := ksn) (kss := kss) (ken := ken) (kes := kes) (kbk := kbk) (kbs := kbs) (kp := kp) (ke := ke) (kM := kM) (kwr := kwr) (kwp := kwp) (hi := hi) (ik := ik) (kg := kg) RS
  refine lv_aload_n hx hb dL_law_1128 rfl (lv_at hl 1 rfl) ?_
  refine mu_X ⟨hx, hb, hml, hown, hts⟩ (k_X6_image l dC dI cI cJ aX (f 0) (f 2) (f 11) (f 20) (f 29) (f 33) (f 3) (f 5) (f 7) (f 9) (f 4) (f 6) (f 8) (f 10) (f 12) (f 14) (f 16) (f 18) (f 13) (f 15) (f 17) (f 19) hi np ne nM nwr nwp nms nmn nss nsn nes nen nbs nbk kp ke kM kwr kwp kms kmn kss ksn kes ken kbs kbk H.size _ e6) (cwV 0 hts gL_law_X6_image rfl rfl rfl (by decide +kernel) ⟨Nat.le_of_ble_eq_true rfl, Nat.le_of_ble_eq_true rfl⟩) hE 0 rfl rfl rfl rfl hl.1 rfl (Nat.le_of_ble_eq_true rfl) dL_law_1129 ⟨Nat.le_of_ble_eq_true rfl, Nat.le_of_ble_eq_true rfl⟩ hP (hD.fst rfl) hS hA [true, false, false, true, true, true, true, true, true, true, true, true, true, true, true, true, true, true, true, true, true] rfl (W1 := wd cI cJ aX aM f k h nmn nms nsn nss nen nes nbk nbs np ne nM nwr nwp kmn1 kms1 ksn1 kss1 ken1 kes1 kbk1 kbs1 kp1 ke1 kM1 kwr1 kwp1 tmn tms tsn tss ten tes tbk tbs tp te tM twr twp tx len nx cn cs so le it hi1 g kg wg tri tb ty fd pl lt fs sc so2 sz it2 ik) rfl (fun H locs hP hS => W.eq (g2 := F0 m 1132 ls [.int r]) rfl ?_)
  refine lv_aload_n hx hb dL_law_1132 rfl (lv_at hl 2 rfl) ?_
  refine mu_X ⟨hx, hb, hml, hown, hts⟩ (k_X7_image l dC dI cI cJ aM (k 0) (k 1) (k 2) (k 3) (k 4) (k 5) (k 6) (k 7) ik tb fd pl lt fs sc g kg H.size _ e7) (cwV 0 hts gL_law_X7_image rfl rfl rfl (by decide +kernel) ⟨Nat.le_of_ble_eq_true rfl, Nat.le_of_ble_eq_true rfl⟩) hE 38 rfl rfl rfl rfl hl.1 rfl (Nat.le_of_ble_eq_true rfl) dL_law_1133 ⟨Nat.le_of_ble_eq_true rfl, Nat.le_of_ble_eq_true rfl⟩ hP (hD.fst rfl) hS hA [false, false, false, false, false, false, false, false, false, false, false, false, false, false, false, false, false, false, false, false, false, false, false, false, false, false, false, false, false, false, false, false, false, false, false, false, false, false, true, true, true] rfl (W1 := wd cI cJ aX aM f k h nmn nms nsn nss nen nes nbk nbs np ne nM nwr nwp kmn1 kms1 ksn1 kss1 ken1 kes1 kbk1 kbs1 kp1 ke1 kM1 kwr1 kwp1 tmn tms tsn tss ten tes tbk tbs tp te tM twr twp tx len nx cn cs so le it hi1 g kg1 wg tri tb ty fd pl lt fs sc so2 sz it2 ik1) rfl (fun H locs hP hS => W.eq (g2 := F0 m 1136 ls [.int r, .int r]) rfl ?_)
  refine lv_icmp_eq (tgt := 1390) hx hb dL_law_1136 (by decide) (fun _ => ?_) (fun q => absurd rfl q)
  exact kk h nmn nms nsn nss nen nes nbk nbs np ne nM nwr nwp kmn1 kms1 ksn1 kss1 ken1 kes1 kbk1 kbs1 kp1 ke1 kM1 kwr1 kwp1 tmn tms tsn tss ten tes tbk tbs tp te tM twr twp tx len nx cn cs so le it hi1 g kg1 wg tri tb ty fd pl lt fs sc so2 sz it2 ik1 _ RH RO RS RK1 RR RT hP _ hS
set_option maxHeartbeats 8000000 in
set_option maxRecDepth 100000 in
theorem lc_undo {p : Program} {l : Launch} {e : Env} {s : State} {m : MethodId} {below : List Frame} {meth : Method} {c : Code} {dC : Nat → ClassId} {dI : Nat → Nat → Nat} {cI cJ : ClassId} {b L : Nat} {xs : Nat → Int32} {aX aM aS : Nat} {f k : Nat → Nat} (C : LC p l e s m meth c dC dI cI cJ b L xs aX aM aS f k) {i : Nat} (hi6 : i + 6 ≤ L) {H : Heap} {locs : List Loc} {ls : Array Slot} {h : Nat → Int32} {nmn : Nat → Int32} {nms : Int32} {nsn : Nat → Int32} {nss : Int32} {nen : Nat → Int32} {nes : Int32} {nbk : Nat → Int32} {nbs : Int32} {np : Int32} {ne : Int32} {nM : Int32} {nwr : Int32} {nwp : Int32} {kmn : Nat → Int32} {kms : Int32} {ksn : Nat → Int32} {kss : Int32} {ken : Nat → Int32} {kes : Int32} {kbk : Nat → Int32} {kbs : Int32} {kp : Int32} {ke : Int32} {kM : Int32} {kwr : Int32} {kwp : Int32} {tmn : Nat → Int32} {tms : Int32} {tsn : Nat → Int32} {tss : Int32} {ten : Nat → Int32} {tes : Int32} {tbk : Nat → Int32} {tbs : Int32} {tp : Int32} {te : Int32} {tM : Int32} {twr : Int32} {twp : Int32} {tx : Nat → Int32} {len : Int32} {nx : Int32} {cn : Nat → Int32} {cs : Int32} {so : Nat → Int32} {le : Nat → Int32} {it : Nat → Int64} {hi : Int32} {g : Nat → Int32} {kg : Nat → Int32} {wg : Nat → Int32} {tri : Nat → Int32} {tb : Int32} {ty : Nat → Int32} {fd : Int32} {pl : Int32} {lt : Int32} {fs : Int32} {sc : Int32} {so2 : Nat → Int32} {sz : Nat → Int32} {it2 : Nat → Int64} {ik : Int32} (RH : HT h) (RO : OK (tri, tb)) (RS : SX nmn nms nsn nss nen nes nbk nbs np ne nM nwr nwp g) (RK : KX hi kmn kms ksn kss ken kes kbk kbs kp ke kM kwr kwp ik kg) (RR : RC tx len ty fd) (RT : TP so le it so2 sz it2) (hP : va_P (dC, dI) vwCl (wd cI cJ aX aM f k h nmn nms nsn nss nen nes nbk nbs np ne nM nwr nwp kmn kms ksn kss ken kes kbk kbs kp ke kM kwr kwp tmn tms tsn tss ten tes tbk tbs tp te tM twr twp tx len nx cn cs so le it hi g kg wg tri tb ty fd pl lt fs sc so2 sz it2 ik) H) (hS : va_S (fun q : Nat => s.heap.size ≤ q) s.heap H locs) (hl : lv_has ls 4 [(0, .ref b), (1, .ref aX), (2, .ref aM), (3, .int (nI i))]) (kk : INVK dC dI cI cJ aX aM f k (fun H => ∀ (locs : List Loc), va_S (fun q : Nat => s.heap.size ≤ q) s.heap H locs → W p l e room_1 s m #[Value.ref b] below meth c H locs 600000 7302250 (lw_Z below #[Value.ref b] s) (F0 m 1390 ls []))) : W p l e room_1 s m #[Value.ref b] below meth c H locs 600000 7302250 (lw_Z below #[Value.ref b] s) (F0 m 1141 ls []) := by
  obtain ⟨hx, hb, hml, hown, hts, hX, hbl, hL, hE, hD, hZ, hXS⟩ := C
  have hA : ∀ q : Nat, s.heap.size ≤ q → (fun q : Nat => s.heap.size ≤ q) q := fun _ h => h
  have hbA : ¬ (fun q : Nat => s.heap.size ≤ q) b := Nat.not_le.mpr hbl
  obtain ⟨r, nmn1, nms1, nsn1, nss1, nen1, nes1, nbk1, nbs1, np1, ne1, nM1, nwr1, nwp1, g1, RS1, e6, e7⟩ := pm_undo RS RK
  refine lv_aload_n hx hb dL_law_1141 rfl (lv_at hl 1 rfl) ?_
  refine mu_X ⟨hx, hb, hml, hown, hts⟩ (k_X6_undo l dC dI cI cJ aX (f 0) (f 2) (f 11) (f 20) (f 29) (f 33) (f 3) (f 5) (f 7) (f 9) (f 4) (f 6) (f 8) (f 10) (f 12) (f 14) (f 16) (f 18) (f 13) (f 15) (f 17) (f 19) hi np ne nM nwr nwp nms nmn nss nsn nes nen nbs nbk kp ke kM kwr kwp kms kmn kss ksn kes ken kbs kbk H.size _ e6) (cwV 0 hts gL_law_X6_undo rfl rfl rfl (by decide +kernel) ⟨Nat.le_of_ble_eq_true rfl, Nat.le_of_ble_eq_true rfl⟩) hE 0 rfl rfl rfl rfl hl.1 rfl (Nat.le_of_ble_eq_true rfl) dL_law_1142 ⟨Nat.le_of_ble_eq_true rfl, Nat.le_of_ble_eq_true rfl⟩ hP (hD.fst rfl) hS hA [true, false, false, true, true, true, true, true, true, true, true, true, true, true, true, true, true, true, true, true, true] rfl (W1 := wd cI cJ aX aM f k h nmn1 nms1 nsn1 nss1 nen1 nes1 nbk1 nbs1 np1 ne1 nM1 nwr1 nwp1 kmn kms ksn kss ken kes kbk kbs kp ke kM kwr kwp tmn tms tsn tss ten tes tbk tbs tp te tM twr twp tx len nx cn cs so le it hi g kg wg tri tb ty fd pl lt fs sc so2 sz it2 ik) rfl (fun H locs hP hS => W.eq (g2 := F0 m 1145 ls [.int r]) rfl ?_)
  refine lv_aload_n hx hb dL_law_1145 rfl (lv_at hl 2 rfl) ?_
  refine mu_X ⟨hx, hb, hml, hown, hts⟩ (k_X7_undo l dC dI cI cJ aM (k 0) (k 1) (k 2) (k 3) (k 4) (k 5) (k 6) (k 7) ik tb fd pl lt fs sc g kg H.size _ e7) (cwV 0 hts gL_law_X7_undo rfl rfl rfl (by decide +kernel) ⟨Nat.le_of_ble_eq_true rfl, Nat.le_of_ble_eq_true rfl⟩) hE 38 rfl rfl rfl rfl hl.1 rfl (Nat.le_of_ble_eq_true rfl) dL_law_1146 ⟨Nat.le_of_ble_eq_true rfl, Nat.le_of_ble_eq_true rfl⟩ hP (hD.fst rfl) hS hA [false, false, false, false, false, false, false, false, false, false, false, false, false, false, false, false, false, false, false, false, false, false, false, false, false, false, false, false, false, false, false, false, false, false, false, false, false, false, true, true, true] rfl (W1 := wd cI cJ aX aM f k h nmn1 nms1 nsn1 nss1 nen1 nes1 nbk1 nbs1 np1 ne1 nM1 nwr1 nwp1 kmn kms ksn kss ken kes kbk kbs kp ke kM kwr kwp tmn tms tsn tss ten tes tbk tbs tp te tM twr twp tx len nx cn cs so le it hi g1 kg wg tri tb ty fd pl lt fs sc so2 sz it2 ik) rfl (fun H locs hP hS => W.eq (g2 := F0 m 1149 ls [.int r, .int r]) rfl ?_)
  refine lv_icmp_eq (tgt := 1390) hx hb dL_law_1149 (by decide) (fun _ => ?_) (fun q => absurd rfl q)
  exact kk h nmn1 nms1 nsn1 nss1 nen1 nes1 nbk1 nbs1 np1 ne1 nM1 nwr1 nwp1 kmn kms ksn kss ken kes kbk kbs kp ke kM kwr kwp tmn tms tsn tss ten tes tbk tbs tp te tM twr twp tx len nx cn cs so le it hi g1 kg wg tri tb ty fd pl lt fs sc so2 sz it2 ik _ RH RO RS1 RK RR RT hP _ hS
set_option maxHeartbeats 8000000 in
set_option maxRecDepth 100000 in
theorem lc_count {p : Program} {l : Launch} {e : Env} {s : State} {m : MethodId} {below : List Frame} {meth : Method} {c : Code} {dC : Nat → ClassId} {dI : Nat → Nat → Nat} {cI cJ : ClassId} {b L : Nat} {xs : Nat → Int32} {aX aM aS : Nat} {f k : Nat → Nat} (C : LC p l e s m meth c dC dI cI cJ b L xs aX aM aS f k) {i : Nat} (hi6 : i + 6 ≤ L) {H : Heap} {locs : List Loc} {ls : Array Slot} {h : Nat → Int32} {nmn : Nat → Int32} {nms : Int32} {nsn : Nat → Int32} {nss : Int32} {nen : Nat → Int32} {nes : Int32} {nbk : Nat → Int32} {nbs : Int32} {np : Int32} {ne : Int32} {nM : Int32} {nwr : Int32} {nwp : Int32} {kmn : Nat → Int32} {kms : Int32} {ksn : Nat → Int32} {kss : Int32} {ken : Nat → Int32} {kes : Int32} {kbk : Nat → Int32} {kbs : Int32} {kp : Int32} {ke : Int32} {kM : Int32} {kwr : Int32} {kwp : Int32} {tmn : Nat → Int32} {tms : Int32} {tsn : Nat → Int32} {tss : Int32} {ten : Nat → Int32} {tes : Int32} {tbk : Nat → Int32} {tbs : Int32} {tp : Int32} {te : Int32} {tM : Int32} {twr : Int32} {twp : Int32} {tx : Nat → Int32} {len : Int32} {nx : Int32} {cn : Nat → Int32} {cs : Int32} {so : Nat → Int32} {le : Nat → Int32} {it : Nat → Int64} {hi : Int32} {g : Nat → Int32} {kg : Nat → Int32} {wg : Nat → Int32} {tri : Nat → Int32} {tb : Int32} {ty : Nat → Int32} {fd : Int32} {pl : Int32} {lt : Int32} {fs : Int32} {sc : Int32} {so2 : Nat → Int32} {sz : Nat → Int32} {it2 : Nat → Int64} {ik : Int32} (RH : HT h) (RO : OK (tri, tb)) (RS : SX nmn nms nsn nss nen nes nbk nbs np ne nM nwr nwp g) (RK : KX hi kmn kms ksn kss ken kes kbk kbs kp ke kM kwr kwp ik kg) (RR : RC tx len ty fd) (RT : TP so le it so2 sz it2) (hP : va_P (dC, dI) vwCl (wd cI cJ aX aM f k h nmn nms nsn nss nen nes nbk nbs np ne nM nwr nwp kmn kms ksn kss ken kes kbk kbs kp ke kM kwr kwp tmn tms tsn tss ten tes tbk tbs tp te tM twr twp tx len nx cn cs so le it hi g kg wg tri tb ty fd pl lt fs sc so2 sz it2 ik) H) (hS : va_S (fun q : Nat => s.heap.size ≤ q) s.heap H locs) (hl : lv_has ls 4 [(0, .ref b), (1, .ref aX), (2, .ref aM), (3, .int (nI i))]) (kk : INVK dC dI cI cJ aX aM f k (fun H => ∀ (locs : List Loc), va_S (fun q : Nat => s.heap.size ≤ q) s.heap H locs → W p l e room_1 s m #[Value.ref b] below meth c H locs 600000 7302250 (lw_Z below #[Value.ref b] s) (F0 m 1390 ls []))) : W p l e room_1 s m #[Value.ref b] below meth c H locs 600000 7302250 (lw_Z below #[Value.ref b] s) (F0 m 1154 ls []) := by
  obtain ⟨hx, hb, hml, hown, hts, hX, hbl, hL, hE, hD, hZ, hXS⟩ := C
  have hA : ∀ q : Nat, s.heap.size ≤ q → (fun q : Nat => s.heap.size ≤ q) q := fun _ h => h
  have hbA : ¬ (fun q : Nat => s.heap.size ≤ q) b := Nat.not_le.mpr hbl
  obtain ⟨r, e6, e7⟩ := pm_count2 RS RR (xs (i + 1))
  refine lv_aload_n hx hb dL_law_1154 rfl (lv_at hl 1 rfl) ?_
  refine lv_aload_n hx hb dL_law_1155 rfl (lv_at hl 0 rfl) ?_
  refine lv_iload_n hx hb dL_law_1156 rfl (lv_at hl 3 rfl) ?_
  refine lv_iconst (v := (1 : Int32)) hx hb dL_law_1157 (by decide) ?_
  refine lv_iadd hx hb dL_law_1158 ?_
  refine va_sld hx hb hX hbl hbA hS (sx_i (x := (1 : Int32)) rfl (j := 1) (by omega) hL) dL_law_1159 ?_
  refine tp_ (y := xs (i + 1)) (congrArg xs (sx_c (x := (1 : Int32)) rfl (j := 1) (by omega) hL).symm) ?_
  refine ro_V ⟨hx, hb, hml, hown, hts⟩ (k_X6_count l dC dI cI cJ aX (f 0) (f 2) (f 11) (f 20) (f 29) (f 33) (f 3) (f 5) (f 7) (f 9) (f 6) (f 8) (f 10) (f 30) (f 31) (xs (i + 1)) hi np ne nM nwr nwp nss nes nbs len nx _ e6) (cwV 1 hts gL_law_X6_count rfl rfl rfl (by decide +kernel) ⟨Nat.le_of_ble_eq_true rfl, Nat.le_of_ble_eq_true rfl⟩) hE hP 0 rfl rfl rfl (hP.sub [0, 3, 6, 8, 10, 30] rfl) rfl hl.1 rfl (Nat.le_of_ble_eq_true rfl) dL_law_1160 ⟨Nat.le_of_ble_eq_true rfl, Nat.le_of_ble_eq_true rfl⟩ ?_
  refine lv_aload_n hx hb dL_law_1163 rfl (lv_at hl 2 rfl) ?_
  refine lv_aload_n hx hb dL_law_1164 rfl (lv_at hl 0 rfl) ?_
  refine lv_iload_n hx hb dL_law_1165 rfl (lv_at hl 3 rfl) ?_
  refine lv_iconst (v := (1 : Int32)) hx hb dL_law_1166 (by decide) ?_
  refine lv_iadd hx hb dL_law_1167 ?_
  refine va_sld hx hb hX hbl hbA hS (sx_i (x := (1 : Int32)) rfl (j := 1) (by omega) hL) dL_law_1168 ?_
  refine tp_ (y := xs (i + 1)) (congrArg xs (sx_c (x := (1 : Int32)) rfl (j := 1) (by omega) hL).symm) ?_
  refine ro_V ⟨hx, hb, hml, hown, hts⟩ (k_X7_count l dC dI cI cJ aM (k 0) (k 1) (k 2) (k 3) (k 4) (k 5) (k 6) (k 7) (xs (i + 1)) ik tb fd pl lt fs sc g _ e7) (cwV 1 hts gL_law_X7_count rfl rfl rfl (by decide +kernel) ⟨Nat.le_of_ble_eq_true rfl, Nat.le_of_ble_eq_true rfl⟩) hE hP 38 rfl rfl rfl (hP.sub [38, 39] rfl) rfl hl.1 rfl (Nat.le_of_ble_eq_true rfl) dL_law_1169 ⟨Nat.le_of_ble_eq_true rfl, Nat.le_of_ble_eq_true rfl⟩ ?_
  refine lv_icmp_eq (tgt := 1390) hx hb dL_law_1172 (by decide) (fun _ => ?_) (fun q => absurd rfl q)
  exact kk h nmn nms nsn nss nen nes nbk nbs np ne nM nwr nwp kmn kms ksn kss ken kes kbk kbs kp ke kM kwr kwp tmn tms tsn tss ten tes tbk tbs tp te tM twr twp tx len nx cn cs so le it hi g kg wg tri tb ty fd pl lt fs sc so2 sz it2 ik _ RH RO RS RK RR RT hP _ hS
set_option maxHeartbeats 8000000 in
set_option maxRecDepth 100000 in
theorem lc_tape {p : Program} {l : Launch} {e : Env} {s : State} {m : MethodId} {below : List Frame} {meth : Method} {c : Code} {dC : Nat → ClassId} {dI : Nat → Nat → Nat} {cI cJ : ClassId} {b L : Nat} {xs : Nat → Int32} {aX aM aS : Nat} {f k : Nat → Nat} (C : LC p l e s m meth c dC dI cI cJ b L xs aX aM aS f k) {i : Nat} (hi6 : i + 6 ≤ L) {H : Heap} {locs : List Loc} {ls : Array Slot} {h : Nat → Int32} {nmn : Nat → Int32} {nms : Int32} {nsn : Nat → Int32} {nss : Int32} {nen : Nat → Int32} {nes : Int32} {nbk : Nat → Int32} {nbs : Int32} {np : Int32} {ne : Int32} {nM : Int32} {nwr : Int32} {nwp : Int32} {kmn : Nat → Int32} {kms : Int32} {ksn : Nat → Int32} {kss : Int32} {ken : Nat → Int32} {kes : Int32} {kbk : Nat → Int32} {kbs : Int32} {kp : Int32} {ke : Int32} {kM : Int32} {kwr : Int32} {kwp : Int32} {tmn : Nat → Int32} {tms : Int32} {tsn : Nat → Int32} {tss : Int32} {ten : Nat → Int32} {tes : Int32} {tbk : Nat → Int32} {tbs : Int32} {tp : Int32} {te : Int32} {tM : Int32} {twr : Int32} {twp : Int32} {tx : Nat → Int32} {len : Int32} {nx : Int32} {cn : Nat → Int32} {cs : Int32} {so : Nat → Int32} {le : Nat → Int32} {it : Nat → Int64} {hi : Int32} {g : Nat → Int32} {kg : Nat → Int32} {wg : Nat → Int32} {tri : Nat → Int32} {tb : Int32} {ty : Nat → Int32} {fd : Int32} {pl : Int32} {lt : Int32} {fs : Int32} {sc : Int32} {so2 : Nat → Int32} {sz : Nat → Int32} {it2 : Nat → Int64} {ik : Int32} (RH : HT h) (RO : OK (tri, tb)) (RS : SX nmn nms nsn nss nen nes nbk nbs np ne nM nwr nwp g) (RK : KX hi kmn kms ksn kss ken kes kbk kbs kp ke kM kwr kwp ik kg) (RR : RC tx len ty fd) (RT : TP so le it so2 sz it2) (hP : va_P (dC, dI) vwCl (wd cI cJ aX aM f k h nmn nms nsn nss nen nes nbk nbs np ne nM nwr nwp kmn kms ksn kss ken kes kbk kbs kp ke kM kwr kwp tmn tms tsn tss ten tes tbk tbs tp te tM twr twp tx len nx cn cs so le it hi g kg wg tri tb ty fd pl lt fs sc so2 sz it2 ik) H) (hS : va_S (fun q : Nat => s.heap.size ≤ q) s.heap H locs) (hl : lv_has ls 4 [(0, .ref b), (1, .ref aX), (2, .ref aM), (3, .int (nI i))]) (kk : INVK dC dI cI cJ aX aM f k (fun H => ∀ (locs : List Loc), va_S (fun q : Nat => s.heap.size ≤ q) s.heap H locs → W p l e room_1 s m #[Value.ref b] below meth c H locs 600000 7302250 (lw_Z below #[Value.ref b] s) (F0 m 1390 ls []))) : W p l e room_1 s m #[Value.ref b] below meth c H locs 600000 7302250 (lw_Z below #[Value.ref b] s) (F0 m 1177 ls []) := by
  obtain ⟨hx, hb, hml, hown, hts, hX, hbl, hL, hE, hD, hZ, hXS⟩ := C
  have hA : ∀ q : Nat, s.heap.size ≤ q → (fun q : Nat => s.heap.size ≤ q) q := fun _ h => h
  have hbA : ¬ (fun q : Nat => s.heap.size ≤ q) b := Nat.not_le.mpr hbl
  obtain ⟨r, so1, le1, it1, so21, sz1, it21, RT1, e6, e7⟩ := pm_tape RT (xs (i + 1)) (xs (i + 2)) (xs (i + 3))
  refine lv_aload_n hx hb dL_law_1177 rfl (lv_at hl 1 rfl) ?_
  refine lv_aload_n hx hb dL_law_1178 rfl (lv_at hl 0 rfl) ?_
  refine lv_iload_n hx hb dL_law_1179 rfl (lv_at hl 3 rfl) ?_
  refine lv_iconst (v := (1 : Int32)) hx hb dL_law_1180 (by decide) ?_
  refine lv_iadd hx hb dL_law_1181 ?_
  refine va_sld hx hb hX hbl hbA hS (sx_i (x := (1 : Int32)) rfl (j := 1) (by omega) hL) dL_law_1182 ?_
  refine tp_ (y := xs (i + 1)) (congrArg xs (sx_c (x := (1 : Int32)) rfl (j := 1) (by omega) hL).symm) ?_
  refine lv_aload_n hx hb dL_law_1183 rfl (lv_at hl 0 rfl) ?_
  refine lv_iload_n hx hb dL_law_1184 rfl (lv_at hl 3 rfl) ?_
  refine lv_iconst (v := (2 : Int32)) hx hb dL_law_1185 (by decide) ?_
  refine lv_iadd hx hb dL_law_1186 ?_
  refine va_sld hx hb hX hbl hbA hS (sx_i (x := (2 : Int32)) rfl (j := 2) (by omega) hL) dL_law_1187 ?_
  refine tp_ (y := xs (i + 2)) (congrArg xs (sx_c (x := (2 : Int32)) rfl (j := 2) (by omega) hL).symm) ?_
  refine lv_aload_n hx hb dL_law_1188 rfl (lv_at hl 0 rfl) ?_
  refine lv_iload_n hx hb dL_law_1189 rfl (lv_at hl 3 rfl) ?_
  refine lv_iconst (v := (3 : Int32)) hx hb dL_law_1190 (by decide) ?_
  refine lv_iadd hx hb dL_law_1191 ?_
  refine va_sld hx hb hX hbl hbA hS (sx_i (x := (3 : Int32)) rfl (j := 3) (by omega) hL) dL_law_1192 ?_
  refine tp_ (y := xs (i + 3)) (congrArg xs (sx_c (x := (3 : Int32)) rfl (j := 3) (by omega) hL).symm) ?_
  refine mu_X ⟨hx, hb, hml, hown, hts⟩ (k_X6_tape l dC dI cI cJ aX (f 0) (f 2) (f 11) (f 20) (f 29) (f 33) (f 34) (f 35) (f 36) (xs (i + 1)) (xs (i + 2)) (xs (i + 3)) hi so le it H.size _ e6) (cwV 3 hts gL_law_X6_tape rfl rfl rfl (by decide +kernel) ⟨Nat.le_of_ble_eq_true rfl, Nat.le_of_ble_eq_true rfl⟩) hE 0 rfl rfl rfl rfl hl.1 rfl (Nat.le_of_ble_eq_true rfl) dL_law_1193 ⟨Nat.le_of_ble_eq_true rfl, Nat.le_of_ble_eq_true rfl⟩ hP (hD.fst rfl) hS hA [true, false, false, false, false, false, false, false, false, false, false, false, false, false, false, false, false, false, false, false, false, false, false, false, false, false, false, false, false, false, false, false, false, false, true, true, true, true] rfl (W1 := wd cI cJ aX aM f k h nmn nms nsn nss nen nes nbk nbs np ne nM nwr nwp kmn kms ksn kss ken kes kbk kbs kp ke kM kwr kwp tmn tms tsn tss ten tes tbk tbs tp te tM twr twp tx len nx cn cs so1 le1 it1 hi g kg wg tri tb ty fd pl lt fs sc so2 sz it2 ik) rfl (fun H locs hP hS => W.eq (g2 := F0 m 1196 ls [.int r]) rfl ?_)
  refine lv_aload_n hx hb dL_law_1196 rfl (lv_at hl 2 rfl) ?_
  refine lv_aload_n hx hb dL_law_1197 rfl (lv_at hl 0 rfl) ?_
  refine lv_iload_n hx hb dL_law_1198 rfl (lv_at hl 3 rfl) ?_
  refine lv_iconst (v := (1 : Int32)) hx hb dL_law_1199 (by decide) ?_
  refine lv_iadd hx hb dL_law_1200 ?_
  refine va_sld hx hb hX hbl hbA hS (sx_i (x := (1 : Int32)) rfl (j := 1) (by omega) hL) dL_law_1201 ?_
  refine tp_ (y := xs (i + 1)) (congrArg xs (sx_c (x := (1 : Int32)) rfl (j := 1) (by omega) hL).symm) ?_
  refine lv_aload_n hx hb dL_law_1202 rfl (lv_at hl 0 rfl) ?_
  refine lv_iload_n hx hb dL_law_1203 rfl (lv_at hl 3 rfl) ?_
  refine lv_iconst (v := (2 : Int32)) hx hb dL_law_1204 (by decide) ?_
  refine lv_iadd hx hb dL_law_1205 ?_
  refine va_sld hx hb hX hbl hbA hS (sx_i (x := (2 : Int32)) rfl (j := 2) (by omega) hL) dL_law_1206 ?_
  refine tp_ (y := xs (i + 2)) (congrArg xs (sx_c (x := (2 : Int32)) rfl (j := 2) (by omega) hL).symm) ?_
  refine lv_aload_n hx hb dL_law_1207 rfl (lv_at hl 0 rfl) ?_
  refine lv_iload_n hx hb dL_law_1208 rfl (lv_at hl 3 rfl) ?_
  refine lv_iconst (v := (3 : Int32)) hx hb dL_law_1209 (by decide) ?_
  refine lv_iadd hx hb dL_law_1210 ?_
  refine va_sld hx hb hX hbl hbA hS (sx_i (x := (3 : Int32)) rfl (j := 3) (by omega) hL) dL_law_1211 ?_
  refine tp_ (y := xs (i + 3)) (congrArg xs (sx_c (x := (3 : Int32)) rfl (j := 3) (by omega) hL).symm) ?_
  refine mu_X ⟨hx, hb, hml, hown, hts⟩ (k_X7_tape l dC dI cI cJ aM (k 0) (k 1) (k 2) (k 3) (k 4) (k 5) (k 6) (k 7) (xs (i + 1)) (xs (i + 2)) (xs (i + 3)) ik tb fd pl lt fs sc so2 sz it2 H.size _ e7) (cwV 3 hts gL_law_X7_tape rfl rfl rfl (by decide +kernel) ⟨Nat.le_of_ble_eq_true rfl, Nat.le_of_ble_eq_true rfl⟩) hE 38 rfl rfl rfl rfl hl.1 rfl (Nat.le_of_ble_eq_true rfl) dL_law_1212 ⟨Nat.le_of_ble_eq_true rfl, Nat.le_of_ble_eq_true rfl⟩ hP (hD.fst rfl) hS hA [false, false, false, false, false, false, false, false, false, false, false, false, false, false, false, false, false, false, false, false, false, false, false, false, false, false, false, false, false, false, false, false, false, false, false, false, false, false, true, false, false, false, false, false, true, true, true] rfl (W1 := wd cI cJ aX aM f k h nmn nms nsn nss nen nes nbk nbs np ne nM nwr nwp kmn kms ksn kss ken kes kbk kbs kp ke kM kwr kwp tmn tms tsn tss ten tes tbk tbs tp te tM twr twp tx len nx cn cs so1 le1 it1 hi g kg wg tri tb ty fd pl lt fs sc so21 sz1 it21 ik) rfl (fun H locs hP hS => W.eq (g2 := F0 m 1215 ls [.int r, .int r]) rfl ?_)
  refine lv_icmp_eq (tgt := 1390) hx hb dL_law_1215 (by decide) (fun _ => ?_) (fun q => absurd rfl q)
  exact kk h nmn nms nsn nss nen nes nbk nbs np ne nM nwr nwp kmn kms ksn kss ken kes kbk kbs kp ke kM kwr kwp tmn tms tsn tss ten tes tbk tbs tp te tM twr twp tx len nx cn cs so1 le1 it1 hi g kg wg tri tb ty fd pl lt fs sc so21 sz1 it21 ik _ RH RO RS RK RR RT1 hP _ hS
set_option maxHeartbeats 8000000 in
set_option maxRecDepth 100000 in
theorem lc_item {p : Program} {l : Launch} {e : Env} {s : State} {m : MethodId} {below : List Frame} {meth : Method} {c : Code} {dC : Nat → ClassId} {dI : Nat → Nat → Nat} {cI cJ : ClassId} {b L : Nat} {xs : Nat → Int32} {aX aM aS : Nat} {f k : Nat → Nat} (C : LC p l e s m meth c dC dI cI cJ b L xs aX aM aS f k) {i : Nat} (hi6 : i + 6 ≤ L) {H : Heap} {locs : List Loc} {ls : Array Slot} {h : Nat → Int32} {nmn : Nat → Int32} {nms : Int32} {nsn : Nat → Int32} {nss : Int32} {nen : Nat → Int32} {nes : Int32} {nbk : Nat → Int32} {nbs : Int32} {np : Int32} {ne : Int32} {nM : Int32} {nwr : Int32} {nwp : Int32} {kmn : Nat → Int32} {kms : Int32} {ksn : Nat → Int32} {kss : Int32} {ken : Nat → Int32} {kes : Int32} {kbk : Nat → Int32} {kbs : Int32} {kp : Int32} {ke : Int32} {kM : Int32} {kwr : Int32} {kwp : Int32} {tmn : Nat → Int32} {tms : Int32} {tsn : Nat → Int32} {tss : Int32} {ten : Nat → Int32} {tes : Int32} {tbk : Nat → Int32} {tbs : Int32} {tp : Int32} {te : Int32} {tM : Int32} {twr : Int32} {twp : Int32} {tx : Nat → Int32} {len : Int32} {nx : Int32} {cn : Nat → Int32} {cs : Int32} {so : Nat → Int32} {le : Nat → Int32} {it : Nat → Int64} {hi : Int32} {g : Nat → Int32} {kg : Nat → Int32} {wg : Nat → Int32} {tri : Nat → Int32} {tb : Int32} {ty : Nat → Int32} {fd : Int32} {pl : Int32} {lt : Int32} {fs : Int32} {sc : Int32} {so2 : Nat → Int32} {sz : Nat → Int32} {it2 : Nat → Int64} {ik : Int32} (RH : HT h) (RO : OK (tri, tb)) (RS : SX nmn nms nsn nss nen nes nbk nbs np ne nM nwr nwp g) (RK : KX hi kmn kms ksn kss ken kes kbk kbs kp ke kM kwr kwp ik kg) (RR : RC tx len ty fd) (RT : TP so le it so2 sz it2) (hP : va_P (dC, dI) vwCl (wd cI cJ aX aM f k h nmn nms nsn nss nen nes nbk nbs np ne nM nwr nwp kmn kms ksn kss ken kes kbk kbs kp ke kM kwr kwp tmn tms tsn tss ten tes tbk tbs tp te tM twr twp tx len nx cn cs so le it hi g kg wg tri tb ty fd pl lt fs sc so2 sz it2 ik) H) (hS : va_S (fun q : Nat => s.heap.size ≤ q) s.heap H locs) (hl : lv_has ls 4 [(0, .ref b), (1, .ref aX), (2, .ref aM), (3, .int (nI i))]) (kk : INVK dC dI cI cJ aX aM f k (fun H => ∀ (locs : List Loc), va_S (fun q : Nat => s.heap.size ≤ q) s.heap H locs → W p l e room_1 s m #[Value.ref b] below meth c H locs 600000 7302250 (lw_Z below #[Value.ref b] s) (F0 m 1390 ls []))) : W p l e room_1 s m #[Value.ref b] below meth c H locs 600000 7302250 (lw_Z below #[Value.ref b] s) (F0 m 1220 ls []) := by
  obtain ⟨hx, hb, hml, hown, hts, hX, hbl, hL, hE, hD, hZ, hXS⟩ := C
  have hA : ∀ q : Nat, s.heap.size ≤ q → (fun q : Nat => s.heap.size ≤ q) q := fun _ h => h
  have hbA : ¬ (fun q : Nat => s.heap.size ≤ q) b := Nat.not_le.mpr hbl
  obtain ⟨r, it1, it21, RT1, e6, e7⟩ := pm_item RT (xs (i + 1)) (xs (i + 2)) (((xs (i + 3)).toInt64 <<< ((32 : Int32).toInt64 &&& 63)) ||| ((xs (i + 4)).toInt64 &&& (4294967295 : Int64)))
  refine lv_aload_n hx hb dL_law_1220 rfl (lv_at hl 1 rfl) ?_
  refine lv_aload_n hx hb dL_law_1221 rfl (lv_at hl 0 rfl) ?_
  refine lv_iload_n hx hb dL_law_1222 rfl (lv_at hl 3 rfl) ?_
  refine lv_iconst (v := (1 : Int32)) hx hb dL_law_1223 (by decide) ?_
  refine lv_iadd hx hb dL_law_1224 ?_
  refine va_sld hx hb hX hbl hbA hS (sx_i (x := (1 : Int32)) rfl (j := 1) (by omega) hL) dL_law_1225 ?_
  refine tp_ (y := xs (i + 1)) (congrArg xs (sx_c (x := (1 : Int32)) rfl (j := 1) (by omega) hL).symm) ?_
  refine lv_aload_n hx hb dL_law_1226 rfl (lv_at hl 0 rfl) ?_
  refine lv_iload_n hx hb dL_law_1227 rfl (lv_at hl 3 rfl) ?_
  refine lv_iconst (v := (2 : Int32)) hx hb dL_law_1228 (by decide) ?_
  refine lv_iadd hx hb dL_law_1229 ?_
  refine va_sld hx hb hX hbl hbA hS (sx_i (x := (2 : Int32)) rfl (j := 2) (by omega) hL) dL_law_1230 ?_
  refine tp_ (y := xs (i + 2)) (congrArg xs (sx_c (x := (2 : Int32)) rfl (j := 2) (by omega) hL).symm) ?_
  refine lv_aload_n hx hb dL_law_1231 rfl (lv_at hl 0 rfl) ?_
  refine lv_iload_n hx hb dL_law_1232 rfl (lv_at hl 3 rfl) ?_
  refine lv_iconst (v := (3 : Int32)) hx hb dL_law_1233 (by decide) ?_
  refine lv_iadd hx hb dL_law_1234 ?_
  refine va_sld hx hb hX hbl hbA hS (sx_i (x := (3 : Int32)) rfl (j := 3) (by omega) hL) dL_law_1235 ?_
  refine tp_ (y := xs (i + 3)) (congrArg xs (sx_c (x := (3 : Int32)) rfl (j := 3) (by omega) hL).symm) ?_
  refine lv_i2l hx hb dL_law_1236 rfl ?_
  refine lv_bipush (v := (32 : Int32)) hx hb dL_law_1237 (by decide) ?_
  refine lv_lshl hx hb dL_law_1239 rfl ?_
  refine lv_aload_n hx hb dL_law_1240 rfl (lv_at hl 0 rfl) ?_
  refine lv_iload_n hx hb dL_law_1241 rfl (lv_at hl 3 rfl) ?_
  refine lv_iconst (v := (4 : Int32)) hx hb dL_law_1242 (by decide) ?_
  refine lv_iadd hx hb dL_law_1243 ?_
  refine va_sld hx hb hX hbl hbA hS (sx_i (x := (4 : Int32)) rfl (j := 4) (by omega) hL) dL_law_1244 ?_
  refine tp_ (y := xs (i + 4)) (congrArg xs (sx_c (x := (4 : Int32)) rfl (j := 4) (by omega) hL).symm) ?_
  refine lv_i2l hx hb dL_law_1245 rfl ?_
  refine lv_ldc2 (v := (4294967295 : Int64)) hx hb hown (hts (.constantLong RL 156 (4294967295)) (List.mem_of_getElem? (i := 6) rfl)) dL_law_1246 ?_
  refine lv_land hx hb dL_law_1249 ?_
  refine lv_lor hx hb dL_law_1250 ?_
  refine mu_X ⟨hx, hb, hml, hown, hts⟩ (k_X6_item l dC dI cI cJ aX (f 0) (f 2) (f 11) (f 20) (f 29) (f 33) (f 34) (f 35) (f 36) (xs (i + 1)) (xs (i + 2)) (((xs (i + 3)).toInt64 <<< ((32 : Int32).toInt64 &&& 63)) ||| ((xs (i + 4)).toInt64 &&& (4294967295 : Int64))) hi so le it H.size _ e6) (cwV 3 hts gL_law_X6_item rfl rfl rfl (by decide +kernel) ⟨Nat.le_of_ble_eq_true rfl, Nat.le_of_ble_eq_true rfl⟩) hE 0 rfl rfl rfl rfl hl.1 rfl (Nat.le_of_ble_eq_true rfl) dL_law_1251 ⟨Nat.le_of_ble_eq_true rfl, Nat.le_of_ble_eq_true rfl⟩ hP (hD.fst rfl) hS hA [true, false, false, false, false, false, false, false, false, false, false, false, false, false, false, false, false, false, false, false, false, false, false, false, false, false, false, false, false, false, false, false, false, false, true, true, true, true] rfl (W1 := wd cI cJ aX aM f k h nmn nms nsn nss nen nes nbk nbs np ne nM nwr nwp kmn kms ksn kss ken kes kbk kbs kp ke kM kwr kwp tmn tms tsn tss ten tes tbk tbs tp te tM twr twp tx len nx cn cs so le it1 hi g kg wg tri tb ty fd pl lt fs sc so2 sz it2 ik) rfl (fun H locs hP hS => W.eq (g2 := F0 m 1254 ls [.int r]) rfl ?_)
  refine lv_aload_n hx hb dL_law_1254 rfl (lv_at hl 2 rfl) ?_
  refine lv_aload_n hx hb dL_law_1255 rfl (lv_at hl 0 rfl) ?_
  refine lv_iload_n hx hb dL_law_1256 rfl (lv_at hl 3 rfl) ?_
  refine lv_iconst (v := (1 : Int32)) hx hb dL_law_1257 (by decide) ?_
  refine lv_iadd hx hb dL_law_1258 ?_
  refine va_sld hx hb hX hbl hbA hS (sx_i (x := (1 : Int32)) rfl (j := 1) (by omega) hL) dL_law_1259 ?_
  refine tp_ (y := xs (i + 1)) (congrArg xs (sx_c (x := (1 : Int32)) rfl (j := 1) (by omega) hL).symm) ?_
  refine lv_aload_n hx hb dL_law_1260 rfl (lv_at hl 0 rfl) ?_
  refine lv_iload_n hx hb dL_law_1261 rfl (lv_at hl 3 rfl) ?_
  refine lv_iconst (v := (2 : Int32)) hx hb dL_law_1262 (by decide) ?_
  refine lv_iadd hx hb dL_law_1263 ?_
  refine va_sld hx hb hX hbl hbA hS (sx_i (x := (2 : Int32)) rfl (j := 2) (by omega) hL) dL_law_1264 ?_
  refine tp_ (y := xs (i + 2)) (congrArg xs (sx_c (x := (2 : Int32)) rfl (j := 2) (by omega) hL).symm) ?_
  refine lv_aload_n hx hb dL_law_1265 rfl (lv_at hl 0 rfl) ?_
  refine lv_iload_n hx hb dL_law_1266 rfl (lv_at hl 3 rfl) ?_
  refine lv_iconst (v := (3 : Int32)) hx hb dL_law_1267 (by decide) ?_
  refine lv_iadd hx hb dL_law_1268 ?_
  refine va_sld hx hb hX hbl hbA hS (sx_i (x := (3 : Int32)) rfl (j := 3) (by omega) hL) dL_law_1269 ?_
  refine tp_ (y := xs (i + 3)) (congrArg xs (sx_c (x := (3 : Int32)) rfl (j := 3) (by omega) hL).symm) ?_
  refine lv_i2l hx hb dL_law_1270 rfl ?_
  refine lv_bipush (v := (32 : Int32)) hx hb dL_law_1271 (by decide) ?_
  refine lv_lshl hx hb dL_law_1273 rfl ?_
  refine lv_aload_n hx hb dL_law_1274 rfl (lv_at hl 0 rfl) ?_
  refine lv_iload_n hx hb dL_law_1275 rfl (lv_at hl 3 rfl) ?_
  refine lv_iconst (v := (4 : Int32)) hx hb dL_law_1276 (by decide) ?_
  refine lv_iadd hx hb dL_law_1277 ?_
  refine va_sld hx hb hX hbl hbA hS (sx_i (x := (4 : Int32)) rfl (j := 4) (by omega) hL) dL_law_1278 ?_
  refine tp_ (y := xs (i + 4)) (congrArg xs (sx_c (x := (4 : Int32)) rfl (j := 4) (by omega) hL).symm) ?_
  refine lv_i2l hx hb dL_law_1279 rfl ?_
  refine lv_ldc2 (v := (4294967295 : Int64)) hx hb hown (hts (.constantLong RL 156 (4294967295)) (List.mem_of_getElem? (i := 6) rfl)) dL_law_1280 ?_
  refine lv_land hx hb dL_law_1283 ?_
  refine lv_lor hx hb dL_law_1284 ?_
  refine mu_X ⟨hx, hb, hml, hown, hts⟩ (k_X7_item l dC dI cI cJ aM (k 0) (k 1) (k 2) (k 3) (k 4) (k 5) (k 6) (k 7) (xs (i + 1)) (xs (i + 2)) (((xs (i + 3)).toInt64 <<< ((32 : Int32).toInt64 &&& 63)) ||| ((xs (i + 4)).toInt64 &&& (4294967295 : Int64))) ik tb fd pl lt fs sc so2 sz it2 H.size _ e7) (cwV 3 hts gL_law_X7_item rfl rfl rfl (by decide +kernel) ⟨Nat.le_of_ble_eq_true rfl, Nat.le_of_ble_eq_true rfl⟩) hE 38 rfl rfl rfl rfl hl.1 rfl (Nat.le_of_ble_eq_true rfl) dL_law_1285 ⟨Nat.le_of_ble_eq_true rfl, Nat.le_of_ble_eq_true rfl⟩ hP (hD.fst rfl) hS hA [false, false, false, false, false, false, false, false, false, false, false, false, false, false, false, false, false, false, false, false, false, false, false, false, false, false, false, false, false, false, false, false, false, false, false, false, false, false, true, false, false, false, false, false, true, true, true] rfl (W1 := wd cI cJ aX aM f k h nmn nms nsn nss nen nes nbk nbs np ne nM nwr nwp kmn kms ksn kss ken kes kbk kbs kp ke kM kwr kwp tmn tms tsn tss ten tes tbk tbs tp te tM twr twp tx len nx cn cs so le it1 hi g kg wg tri tb ty fd pl lt fs sc so2 sz it21 ik) rfl (fun H locs hP hS => W.eq (g2 := F0 m 1288 ls [.int r, .int r]) rfl ?_)
  refine lv_icmp_eq (tgt := 1390) hx hb dL_law_1288 (by decide) (fun _ => ?_) (fun q => absurd rfl q)
  exact kk h nmn nms nsn nss nen nes nbk nbs np ne nM nwr nwp kmn kms ksn kss ken kes kbk kbs kp ke kM kwr kwp tmn tms tsn tss ten tes tbk tbs tp te tM twr twp tx len nx cn cs so le it1 hi g kg wg tri tb ty fd pl lt fs sc so2 sz it21 ik _ RH RO RS RK RR RT1 hP _ hS
set_option maxHeartbeats 8000000 in
set_option maxRecDepth 100000 in
theorem lc_peek {p : Program} {l : Launch} {e : Env} {s : State} {m : MethodId} {below : List Frame} {meth : Method} {c : Code} {dC : Nat → ClassId} {dI : Nat → Nat → Nat} {cI cJ : ClassId} {b L : Nat} {xs : Nat → Int32} {aX aM aS : Nat} {f k : Nat → Nat} (C : LC p l e s m meth c dC dI cI cJ b L xs aX aM aS f k) {i : Nat} (hi6 : i + 6 ≤ L) {H : Heap} {locs : List Loc} {ls : Array Slot} {h : Nat → Int32} {nmn : Nat → Int32} {nms : Int32} {nsn : Nat → Int32} {nss : Int32} {nen : Nat → Int32} {nes : Int32} {nbk : Nat → Int32} {nbs : Int32} {np : Int32} {ne : Int32} {nM : Int32} {nwr : Int32} {nwp : Int32} {kmn : Nat → Int32} {kms : Int32} {ksn : Nat → Int32} {kss : Int32} {ken : Nat → Int32} {kes : Int32} {kbk : Nat → Int32} {kbs : Int32} {kp : Int32} {ke : Int32} {kM : Int32} {kwr : Int32} {kwp : Int32} {tmn : Nat → Int32} {tms : Int32} {tsn : Nat → Int32} {tss : Int32} {ten : Nat → Int32} {tes : Int32} {tbk : Nat → Int32} {tbs : Int32} {tp : Int32} {te : Int32} {tM : Int32} {twr : Int32} {twp : Int32} {tx : Nat → Int32} {len : Int32} {nx : Int32} {cn : Nat → Int32} {cs : Int32} {so : Nat → Int32} {le : Nat → Int32} {it : Nat → Int64} {hi : Int32} {g : Nat → Int32} {kg : Nat → Int32} {wg : Nat → Int32} {tri : Nat → Int32} {tb : Int32} {ty : Nat → Int32} {fd : Int32} {pl : Int32} {lt : Int32} {fs : Int32} {sc : Int32} {so2 : Nat → Int32} {sz : Nat → Int32} {it2 : Nat → Int64} {ik : Int32} (RH : HT h) (RO : OK (tri, tb)) (RS : SX nmn nms nsn nss nen nes nbk nbs np ne nM nwr nwp g) (RK : KX hi kmn kms ksn kss ken kes kbk kbs kp ke kM kwr kwp ik kg) (RR : RC tx len ty fd) (RT : TP so le it so2 sz it2) (hP : va_P (dC, dI) vwCl (wd cI cJ aX aM f k h nmn nms nsn nss nen nes nbk nbs np ne nM nwr nwp kmn kms ksn kss ken kes kbk kbs kp ke kM kwr kwp tmn tms tsn tss ten tes tbk tbs tp te tM twr twp tx len nx cn cs so le it hi g kg wg tri tb ty fd pl lt fs sc so2 sz it2 ik) H) (hS : va_S (fun q : Nat => s.heap.size ≤ q) s.heap H locs) (hl : lv_has ls 4 [(0, .ref b), (1, .ref aX), (2, .ref aM), (3, .int (nI i))]) (kk : INVK dC dI cI cJ aX aM f k (fun H => ∀ (locs : List Loc), va_S (fun q : Nat => s.heap.size ≤ q) s.heap H locs → W p l e room_1 s m #[Value.ref b] below meth c H locs 600000 7302250 (lw_Z below #[Value.ref b] s) (F0 m 1390 ls []))) : W p l e room_1 s m #[Value.ref b] below meth c H locs 600000 7302250 (lw_Z below #[Value.ref b] s) (F0 m 1293 ls []) := by
  obtain ⟨hx, hb, hml, hown, hts, hX, hbl, hL, hE, hD, hZ, hXS⟩ := C
  have hA : ∀ q : Nat, s.heap.size ≤ q → (fun q : Nat => s.heap.size ≤ q) q := fun _ h => h
  have hbA : ¬ (fun q : Nat => s.heap.size ≤ q) b := Nat.not_le.mpr hbl
  obtain ⟨r, e6, e7⟩ := pm_peek RT (xs (i + 1)) (xs (i + 2))
  refine lv_aload_n hx hb dL_law_1293 rfl (lv_at hl 1 rfl) ?_
  refine lv_aload_n hx hb dL_law_1294 rfl (lv_at hl 0 rfl) ?_
  refine lv_iload_n hx hb dL_law_1295 rfl (lv_at hl 3 rfl) ?_
  refine lv_iconst (v := (1 : Int32)) hx hb dL_law_1296 (by decide) ?_
  refine lv_iadd hx hb dL_law_1297 ?_
  refine va_sld hx hb hX hbl hbA hS (sx_i (x := (1 : Int32)) rfl (j := 1) (by omega) hL) dL_law_1298 ?_
  refine tp_ (y := xs (i + 1)) (congrArg xs (sx_c (x := (1 : Int32)) rfl (j := 1) (by omega) hL).symm) ?_
  refine lv_aload_n hx hb dL_law_1299 rfl (lv_at hl 0 rfl) ?_
  refine lv_iload_n hx hb dL_law_1300 rfl (lv_at hl 3 rfl) ?_
  refine lv_iconst (v := (2 : Int32)) hx hb dL_law_1301 (by decide) ?_
  refine lv_iadd hx hb dL_law_1302 ?_
  refine va_sld hx hb hX hbl hbA hS (sx_i (x := (2 : Int32)) rfl (j := 2) (by omega) hL) dL_law_1303 ?_
  refine tp_ (y := xs (i + 2)) (congrArg xs (sx_c (x := (2 : Int32)) rfl (j := 2) (by omega) hL).symm) ?_
  refine ro_V ⟨hx, hb, hml, hown, hts⟩ (k_X6_peek l dC dI cI cJ aX (f 0) (f 2) (f 11) (f 20) (f 29) (f 33) (f 34) (f 35) (f 36) (xs (i + 1)) (xs (i + 2)) hi le it _ e6) (cwV 2 hts gL_law_X6_peek rfl rfl rfl (by decide +kernel) ⟨Nat.le_of_ble_eq_true rfl, Nat.le_of_ble_eq_true rfl⟩) hE hP 0 rfl rfl rfl (hP.sub [0, 34, 36, 37] rfl) rfl hl.1 rfl (Nat.le_of_ble_eq_true rfl) dL_law_1304 ⟨Nat.le_of_ble_eq_true rfl, Nat.le_of_ble_eq_true rfl⟩ ?_
  refine lv_aload_n hx hb dL_law_1307 rfl (lv_at hl 2 rfl) ?_
  refine lv_aload_n hx hb dL_law_1308 rfl (lv_at hl 0 rfl) ?_
  refine lv_iload_n hx hb dL_law_1309 rfl (lv_at hl 3 rfl) ?_
  refine lv_iconst (v := (1 : Int32)) hx hb dL_law_1310 (by decide) ?_
  refine lv_iadd hx hb dL_law_1311 ?_
  refine va_sld hx hb hX hbl hbA hS (sx_i (x := (1 : Int32)) rfl (j := 1) (by omega) hL) dL_law_1312 ?_
  refine tp_ (y := xs (i + 1)) (congrArg xs (sx_c (x := (1 : Int32)) rfl (j := 1) (by omega) hL).symm) ?_
  refine lv_aload_n hx hb dL_law_1313 rfl (lv_at hl 0 rfl) ?_
  refine lv_iload_n hx hb dL_law_1314 rfl (lv_at hl 3 rfl) ?_
  refine lv_iconst (v := (2 : Int32)) hx hb dL_law_1315 (by decide) ?_
  refine lv_iadd hx hb dL_law_1316 ?_
  refine va_sld hx hb hX hbl hbA hS (sx_i (x := (2 : Int32)) rfl (j := 2) (by omega) hL) dL_law_1317 ?_
  refine tp_ (y := xs (i + 2)) (congrArg xs (sx_c (x := (2 : Int32)) rfl (j := 2) (by omega) hL).symm) ?_
  refine ro_V ⟨hx, hb, hml, hown, hts⟩ (k_X7_peek l dC dI cI cJ aM (k 0) (k 1) (k 2) (k 3) (k 4) (k 5) (k 6) (k 7) (xs (i + 1)) (xs (i + 2)) ik tb fd pl lt fs sc sz it2 _ e7) (cwV 2 hts gL_law_X7_peek rfl rfl rfl (by decide +kernel) ⟨Nat.le_of_ble_eq_true rfl, Nat.le_of_ble_eq_true rfl⟩) hE hP 38 rfl rfl rfl (hP.sub [38, 45, 46] rfl) rfl hl.1 rfl (Nat.le_of_ble_eq_true rfl) dL_law_1318 ⟨Nat.le_of_ble_eq_true rfl, Nat.le_of_ble_eq_true rfl⟩ ?_
  refine W.lcmp hx hb dL_law_1321 ?_
  refine lv_if_eq (tgt := 1390) hx hb dL_law_1322 (by decide) (fun _ => ?_) (fun q => absurd ((lg_cmp_eq _ _).mpr rfl) q)
  exact kk h nmn nms nsn nss nen nes nbk nbs np ne nM nwr nwp kmn kms ksn kss ken kes kbk kbs kp ke kM kwr kwp tmn tms tsn tss ten tes tbk tbs tp te tM twr twp tx len nx cn cs so le it hi g kg wg tri tb ty fd pl lt fs sc so2 sz it2 ik _ RH RO RS RK RR RT hP _ hS
set_option maxHeartbeats 8000000 in
set_option maxRecDepth 100000 in
theorem lc_shift {p : Program} {l : Launch} {e : Env} {s : State} {m : MethodId} {below : List Frame} {meth : Method} {c : Code} {dC : Nat → ClassId} {dI : Nat → Nat → Nat} {cI cJ : ClassId} {b L : Nat} {xs : Nat → Int32} {aX aM aS : Nat} {f k : Nat → Nat} (C : LC p l e s m meth c dC dI cI cJ b L xs aX aM aS f k) {i : Nat} (hi6 : i + 6 ≤ L) {H : Heap} {locs : List Loc} {ls : Array Slot} {h : Nat → Int32} {nmn : Nat → Int32} {nms : Int32} {nsn : Nat → Int32} {nss : Int32} {nen : Nat → Int32} {nes : Int32} {nbk : Nat → Int32} {nbs : Int32} {np : Int32} {ne : Int32} {nM : Int32} {nwr : Int32} {nwp : Int32} {kmn : Nat → Int32} {kms : Int32} {ksn : Nat → Int32} {kss : Int32} {ken : Nat → Int32} {kes : Int32} {kbk : Nat → Int32} {kbs : Int32} {kp : Int32} {ke : Int32} {kM : Int32} {kwr : Int32} {kwp : Int32} {tmn : Nat → Int32} {tms : Int32} {tsn : Nat → Int32} {tss : Int32} {ten : Nat → Int32} {tes : Int32} {tbk : Nat → Int32} {tbs : Int32} {tp : Int32} {te : Int32} {tM : Int32} {twr : Int32} {twp : Int32} {tx : Nat → Int32} {len : Int32} {nx : Int32} {cn : Nat → Int32} {cs : Int32} {so : Nat → Int32} {le : Nat → Int32} {it : Nat → Int64} {hi : Int32} {g : Nat → Int32} {kg : Nat → Int32} {wg : Nat → Int32} {tri : Nat → Int32} {tb : Int32} {ty : Nat → Int32} {fd : Int32} {pl : Int32} {lt : Int32} {fs : Int32} {sc : Int32} {so2 : Nat → Int32} {sz : Nat → Int32} {it2 : Nat → Int64} {ik : Int32} (RH : HT h) (RO : OK (tri, tb)) (RS : SX nmn nms nsn nss nen nes nbk nbs np ne nM nwr nwp g) (RK : KX hi kmn kms ksn kss ken kes kbk kbs kp ke kM kwr kwp ik kg) (RR : RC tx len ty fd) (RT : TP so le it so2 sz it2) (hP : va_P (dC, dI) vwCl (wd cI cJ aX aM f k h nmn nms nsn nss nen nes nbk nbs np ne nM nwr nwp kmn kms ksn kss ken kes kbk kbs kp ke kM kwr kwp tmn tms tsn tss ten tes tbk tbs tp te tM twr twp tx len nx cn cs so le it hi g kg wg tri tb ty fd pl lt fs sc so2 sz it2 ik) H) (hS : va_S (fun q : Nat => s.heap.size ≤ q) s.heap H locs) (hl : lv_has ls 4 [(0, .ref b), (1, .ref aX), (2, .ref aM), (3, .int (nI i))]) (kk : INVK dC dI cI cJ aX aM f k (fun H => ∀ (locs : List Loc), va_S (fun q : Nat => s.heap.size ≤ q) s.heap H locs → W p l e room_1 s m #[Value.ref b] below meth c H locs 600000 7302250 (lw_Z below #[Value.ref b] s) (F0 m 1390 ls []))) : W p l e room_1 s m #[Value.ref b] below meth c H locs 600000 7302250 (lw_Z below #[Value.ref b] s) (F0 m 1327 ls []) := by
  obtain ⟨hx, hb, hml, hown, hts, hX, hbl, hL, hE, hD, hZ, hXS⟩ := C
  have hA : ∀ q : Nat, s.heap.size ≤ q → (fun q : Nat => s.heap.size ≤ q) q := fun _ h => h
  have hbA : ¬ (fun q : Nat => s.heap.size ≤ q) b := Nat.not_le.mpr hbl
  obtain ⟨r, it1, it21, RT1, e6, e7⟩ := pm_shift RT (xs (i + 1)) (xs (i + 2)) (xs (i + 3)) (xs (i + 4)) (xs (i + 5))
  refine lv_aload_n hx hb dL_law_1327 rfl (lv_at hl 1 rfl) ?_
  refine lv_aload_n hx hb dL_law_1328 rfl (lv_at hl 0 rfl) ?_
  refine lv_iload_n hx hb dL_law_1329 rfl (lv_at hl 3 rfl) ?_
  refine lv_iconst (v := (1 : Int32)) hx hb dL_law_1330 (by decide) ?_
  refine lv_iadd hx hb dL_law_1331 ?_
  refine va_sld hx hb hX hbl hbA hS (sx_i (x := (1 : Int32)) rfl (j := 1) (by omega) hL) dL_law_1332 ?_
  refine tp_ (y := xs (i + 1)) (congrArg xs (sx_c (x := (1 : Int32)) rfl (j := 1) (by omega) hL).symm) ?_
  refine lv_aload_n hx hb dL_law_1333 rfl (lv_at hl 0 rfl) ?_
  refine lv_iload_n hx hb dL_law_1334 rfl (lv_at hl 3 rfl) ?_
  refine lv_iconst (v := (2 : Int32)) hx hb dL_law_1335 (by decide) ?_
  refine lv_iadd hx hb dL_law_1336 ?_
  refine va_sld hx hb hX hbl hbA hS (sx_i (x := (2 : Int32)) rfl (j := 2) (by omega) hL) dL_law_1337 ?_
  refine tp_ (y := xs (i + 2)) (congrArg xs (sx_c (x := (2 : Int32)) rfl (j := 2) (by omega) hL).symm) ?_
  refine lv_aload_n hx hb dL_law_1338 rfl (lv_at hl 0 rfl) ?_
  refine lv_iload_n hx hb dL_law_1339 rfl (lv_at hl 3 rfl) ?_
  refine lv_iconst (v := (3 : Int32)) hx hb dL_law_1340 (by decide) ?_
  refine lv_iadd hx hb dL_law_1341 ?_
  refine va_sld hx hb hX hbl hbA hS (sx_i (x := (3 : Int32)) rfl (j := 3) (by omega) hL) dL_law_1342 ?_
  refine tp_ (y := xs (i + 3)) (congrArg xs (sx_c (x := (3 : Int32)) rfl (j := 3) (by omega) hL).symm) ?_
  refine lv_aload_n hx hb dL_law_1343 rfl (lv_at hl 0 rfl) ?_
  refine lv_iload_n hx hb dL_law_1344 rfl (lv_at hl 3 rfl) ?_
  refine lv_iconst (v := (4 : Int32)) hx hb dL_law_1345 (by decide) ?_
  refine lv_iadd hx hb dL_law_1346 ?_
  refine va_sld hx hb hX hbl hbA hS (sx_i (x := (4 : Int32)) rfl (j := 4) (by omega) hL) dL_law_1347 ?_
  refine tp_ (y := xs (i + 4)) (congrArg xs (sx_c (x := (4 : Int32)) rfl (j := 4) (by omega) hL).symm) ?_
  refine lv_aload_n hx hb dL_law_1348 rfl (lv_at hl 0 rfl) ?_
  refine lv_iload_n hx hb dL_law_1349 rfl (lv_at hl 3 rfl) ?_
  refine lv_iconst (v := (5 : Int32)) hx hb dL_law_1350 (by decide) ?_
  refine lv_iadd hx hb dL_law_1351 ?_
  refine va_sld hx hb hX hbl hbA hS (sx_i (x := (5 : Int32)) rfl (j := 5) (by omega) hL) dL_law_1352 ?_
  refine tp_ (y := xs (i + 5)) (congrArg xs (sx_c (x := (5 : Int32)) rfl (j := 5) (by omega) hL).symm) ?_
  refine mu_X ⟨hx, hb, hml, hown, hts⟩ (k_X6_shift l dC dI cI cJ aX (f 0) (f 2) (f 11) (f 20) (f 29) (f 33) (f 34) (f 35) (f 36) (xs (i + 1)) (xs (i + 2)) (xs (i + 3)) (xs (i + 4)) (xs (i + 5)) hi so le it H.size _ e6) (cwV 5 hts gL_law_X6_shift rfl rfl rfl (by decide +kernel) ⟨Nat.le_of_ble_eq_true rfl, Nat.le_of_ble_eq_true rfl⟩) hE 0 rfl rfl rfl rfl hl.1 rfl (Nat.le_of_ble_eq_true rfl) dL_law_1353 ⟨Nat.le_of_ble_eq_true rfl, Nat.le_of_ble_eq_true rfl⟩ hP (hD.fst rfl) hS hA [true, false, false, false, false, false, false, false, false, false, false, false, false, false, false, false, false, false, false, false, false, false, false, false, false, false, false, false, false, false, false, false, false, false, true, true, true, true] rfl (W1 := wd cI cJ aX aM f k h nmn nms nsn nss nen nes nbk nbs np ne nM nwr nwp kmn kms ksn kss ken kes kbk kbs kp ke kM kwr kwp tmn tms tsn tss ten tes tbk tbs tp te tM twr twp tx len nx cn cs so le it1 hi g kg wg tri tb ty fd pl lt fs sc so2 sz it2 ik) rfl (fun H locs hP hS => W.eq (g2 := F0 m 1356 ls [.int r]) rfl ?_)
  refine lv_aload_n hx hb dL_law_1356 rfl (lv_at hl 2 rfl) ?_
  refine lv_aload_n hx hb dL_law_1357 rfl (lv_at hl 0 rfl) ?_
  refine lv_iload_n hx hb dL_law_1358 rfl (lv_at hl 3 rfl) ?_
  refine lv_iconst (v := (1 : Int32)) hx hb dL_law_1359 (by decide) ?_
  refine lv_iadd hx hb dL_law_1360 ?_
  refine va_sld hx hb hX hbl hbA hS (sx_i (x := (1 : Int32)) rfl (j := 1) (by omega) hL) dL_law_1361 ?_
  refine tp_ (y := xs (i + 1)) (congrArg xs (sx_c (x := (1 : Int32)) rfl (j := 1) (by omega) hL).symm) ?_
  refine lv_aload_n hx hb dL_law_1362 rfl (lv_at hl 0 rfl) ?_
  refine lv_iload_n hx hb dL_law_1363 rfl (lv_at hl 3 rfl) ?_
  refine lv_iconst (v := (2 : Int32)) hx hb dL_law_1364 (by decide) ?_
  refine lv_iadd hx hb dL_law_1365 ?_
  refine va_sld hx hb hX hbl hbA hS (sx_i (x := (2 : Int32)) rfl (j := 2) (by omega) hL) dL_law_1366 ?_
  refine tp_ (y := xs (i + 2)) (congrArg xs (sx_c (x := (2 : Int32)) rfl (j := 2) (by omega) hL).symm) ?_
  refine lv_aload_n hx hb dL_law_1367 rfl (lv_at hl 0 rfl) ?_
  refine lv_iload_n hx hb dL_law_1368 rfl (lv_at hl 3 rfl) ?_
  refine lv_iconst (v := (3 : Int32)) hx hb dL_law_1369 (by decide) ?_
  refine lv_iadd hx hb dL_law_1370 ?_
  refine va_sld hx hb hX hbl hbA hS (sx_i (x := (3 : Int32)) rfl (j := 3) (by omega) hL) dL_law_1371 ?_
  refine tp_ (y := xs (i + 3)) (congrArg xs (sx_c (x := (3 : Int32)) rfl (j := 3) (by omega) hL).symm) ?_
  refine lv_aload_n hx hb dL_law_1372 rfl (lv_at hl 0 rfl) ?_
  refine lv_iload_n hx hb dL_law_1373 rfl (lv_at hl 3 rfl) ?_
  refine lv_iconst (v := (4 : Int32)) hx hb dL_law_1374 (by decide) ?_
  refine lv_iadd hx hb dL_law_1375 ?_
  refine va_sld hx hb hX hbl hbA hS (sx_i (x := (4 : Int32)) rfl (j := 4) (by omega) hL) dL_law_1376 ?_
  refine tp_ (y := xs (i + 4)) (congrArg xs (sx_c (x := (4 : Int32)) rfl (j := 4) (by omega) hL).symm) ?_
  refine lv_aload_n hx hb dL_law_1377 rfl (lv_at hl 0 rfl) ?_
  refine lv_iload_n hx hb dL_law_1378 rfl (lv_at hl 3 rfl) ?_
  refine lv_iconst (v := (5 : Int32)) hx hb dL_law_1379 (by decide) ?_
  refine lv_iadd hx hb dL_law_1380 ?_
  refine va_sld hx hb hX hbl hbA hS (sx_i (x := (5 : Int32)) rfl (j := 5) (by omega) hL) dL_law_1381 ?_
  refine tp_ (y := xs (i + 5)) (congrArg xs (sx_c (x := (5 : Int32)) rfl (j := 5) (by omega) hL).symm) ?_
  refine mu_X ⟨hx, hb, hml, hown, hts⟩ (k_X7_shift l dC dI cI cJ aM (k 0) (k 1) (k 2) (k 3) (k 4) (k 5) (k 6) (k 7) (xs (i + 1)) (xs (i + 2)) (xs (i + 3)) (xs (i + 4)) (xs (i + 5)) ik tb fd pl lt fs sc so2 sz it2 H.size _ e7) (cwV 5 hts gL_law_X7_shift rfl rfl rfl (by decide +kernel) ⟨Nat.le_of_ble_eq_true rfl, Nat.le_of_ble_eq_true rfl⟩) hE 38 rfl rfl rfl rfl hl.1 rfl (Nat.le_of_ble_eq_true rfl) dL_law_1382 ⟨Nat.le_of_ble_eq_true rfl, Nat.le_of_ble_eq_true rfl⟩ hP (hD.fst rfl) hS hA [false, false, false, false, false, false, false, false, false, false, false, false, false, false, false, false, false, false, false, false, false, false, false, false, false, false, false, false, false, false, false, false, false, false, false, false, false, false, true, false, false, false, false, false, true, true, true] rfl (W1 := wd cI cJ aX aM f k h nmn nms nsn nss nen nes nbk nbs np ne nM nwr nwp kmn kms ksn kss ken kes kbk kbs kp ke kM kwr kwp tmn tms tsn tss ten tes tbk tbs tp te tM twr twp tx len nx cn cs so le it1 hi g kg wg tri tb ty fd pl lt fs sc so2 sz it21 ik) rfl (fun H locs hP hS => W.eq (g2 := F0 m 1385 ls [.int r, .int r]) rfl ?_)
  refine lv_icmp_eq (tgt := 1390) hx hb dL_law_1385 (by decide) (fun _ => ?_) (fun q => absurd rfl q)
  exact kk h nmn nms nsn nss nen nes nbk nbs np ne nM nwr nwp kmn kms ksn kss ken kes kbk kbs kp ke kM kwr kwp tmn tms tsn tss ten tes tbk tbs tp te tM twr twp tx len nx cn cs so le it1 hi g kg wg tri tb ty fd pl lt fs sc so2 sz it21 ik _ RH RO RS RK RR RT1 hP _ hS
