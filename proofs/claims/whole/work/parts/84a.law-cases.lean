/-! the law's cases, by program -/
set_option maxHeartbeats 8000000 in
set_option maxRecDepth 100000 in
theorem lc_prime {p : Program} {l : Launch} {e : Env} {s : State} {m : MethodId} {below : List Frame} {meth : Method} {c : Code} {dC : Nat → ClassId} {dI : Nat → Nat → Nat} {cI cJ : ClassId} {b L : Nat} {xs : Nat → Int32} {aX aM aS : Nat} {f k : Nat → Nat} (C : LC p l e s m meth c dC dI cI cJ b L xs aX aM aS f k) {i : Nat} (hi6 : i + 6 ≤ L) {H : Heap} {locs : List Loc} {ls : Array Slot} (J : INV dC dI cI cJ aX aM f k H) (hS : va_S (fun q : Nat => s.heap.size ≤ q) s.heap H locs) (hl : lv_has ls 4 [(0, .ref b), (1, .ref aX), (2, .ref aM), (3, .int (nI i))]) (kk : ∀ (H : Heap) (locs : List Loc), INV dC dI cI cJ aX aM f k H → va_S (fun q : Nat => s.heap.size ≤ q) s.heap H locs → W p l e room_1 s m #[Value.ref b] below meth c H locs 600000 7302250 (lw_Z below #[Value.ref b] s) (F0 m 1390 ls [])) : W p l e room_1 s m #[Value.ref b] below meth c H locs 600000 7302250 (lw_Z below #[Value.ref b] s) (F0 m 196 ls []) := by
  obtain ⟨hx, hb, hml, hown, hts, hX, hbl, hL, hE, hD, hZ, hXS⟩ := C
  obtain ⟨h, nmn, nms, nsn, nss, nen, nes, nbk, nbs, np, ne, nM, nwr, nwp, kmn, kms, ksn, kss, ken, kes, kbk, kbs, kp, ke, kM, kwr, kwp, tmn, tms, tsn, tss, ten, tes, tbk, tbs, tp, te, tM, twr, twp, tx, len, nx, cn, cs, so, le, it, hi, g, kg, wg, tri, tb, ty, fd, pl, lt, fs, sc, so2, sz, it2, ik, RH, RO, RS, RK, RR, RT, hP⟩ := J
  have hA : ∀ q : Nat, s.heap.size ≤ q → (fun q : Nat => s.heap.size ≤ q) q := fun _ h => h
  have hbA : ¬ (fun q : Nat => s.heap.size ≤ q) b := Nat.not_le.mpr hbl
  obtain ⟨r, np1, ne1, nM1, g1, RS1, e6, e7⟩ := pm_prime RS (xs (i + 1))
  refine lv_aload_n hx hb dL_law_196 rfl (lv_at hl 1 rfl) ?_
  refine lv_aload_n hx hb dL_law_197 rfl (lv_at hl 0 rfl) ?_
  refine lv_iload_n hx hb dL_law_198 rfl (lv_at hl 3 rfl) ?_
  refine lv_iconst (v := (1 : Int32)) hx hb dL_law_199 (by decide) ?_
  refine lv_iadd hx hb dL_law_200 ?_
  refine va_sld hx hb hX hbl hbA hS (sx_i (x := (1 : Int32)) rfl (j := 1) (by omega) hL) dL_law_201 ?_
  refine tp_ (y := xs (i + 1)) (congrArg xs (sx_c (x := (1 : Int32)) rfl (j := 1) (by omega) hL).symm) ?_
  refine mu_V ⟨hx, hb, hml, hown, hts⟩ (k_X6_prime l dC dI cI cJ aX (f 0) (f 2) (f 11) (f 20) (f 29) (f 33) (f 3) (f 5) (f 7) (f 9) (xs (i + 1)) hi np ne nM nwr nwp H.size _ e6) (cwV 1 hts gL_law_X6_prime rfl rfl rfl (by decide +kernel) ⟨Nat.le_of_ble_eq_true rfl, Nat.le_of_ble_eq_true rfl⟩) hE 0 rfl rfl rfl rfl hl.1 rfl (Nat.le_of_ble_eq_true rfl) dL_law_202 ⟨Nat.le_of_ble_eq_true rfl, Nat.le_of_ble_eq_true rfl⟩ hP (hD.fst rfl) hS hA [0, 3] [1, 2, 4, 5, 6, 7, 8, 9, 10, 11, 12, 13, 14, 15, 16, 17, 18, 19, 20, 21, 22, 23, 24, 25, 26, 27, 28, 29, 30, 31, 32, 33, 34, 35, 36, 37, 38, 39, 40, 41, 42, 43, 44, 45, 46] [45, 0, 1, 46, 2, 3, 4, 5, 6, 7, 8, 9, 10, 11, 12, 13, 14, 15, 16, 17, 18, 19, 20, 21, 22, 23, 24, 25, 26, 27, 28, 29, 30, 31, 32, 33, 34, 35, 36, 37, 38, 39, 40, 41, 42, 43, 44] rfl rfl (by decide +kernel) (by decide +kernel) rfl (by decide +kernel) (W1 := wd cI cJ aX aM f k h nmn nms nsn nss nen nes nbk nbs np1 ne1 nM1 nwr nwp kmn kms ksn kss ken kes kbk kbs kp ke kM kwr kwp tmn tms tsn tss ten tes tbk tbs tp te tM twr twp tx len nx cn cs so le it hi g kg wg tri tb ty fd pl lt fs sc so2 sz it2 ik) rfl (fun H locs hP hS => W.eq (g2 := F0 m 205 ls [.int r]) rfl ?_)
  refine lv_aload_n hx hb dL_law_205 rfl (lv_at hl 2 rfl) ?_
  refine lv_aload_n hx hb dL_law_206 rfl (lv_at hl 0 rfl) ?_
  refine lv_iload_n hx hb dL_law_207 rfl (lv_at hl 3 rfl) ?_
  refine lv_iconst (v := (1 : Int32)) hx hb dL_law_208 (by decide) ?_
  refine lv_iadd hx hb dL_law_209 ?_
  refine va_sld hx hb hX hbl hbA hS (sx_i (x := (1 : Int32)) rfl (j := 1) (by omega) hL) dL_law_210 ?_
  refine tp_ (y := xs (i + 1)) (congrArg xs (sx_c (x := (1 : Int32)) rfl (j := 1) (by omega) hL).symm) ?_
  refine mu_V ⟨hx, hb, hml, hown, hts⟩ (k_X7_prime l dC dI cI cJ aM (k 0) (k 1) (k 2) (k 3) (k 4) (k 5) (k 6) (k 7) (xs (i + 1)) ik tb fd pl lt fs sc g H.size _ e7) (cwV 1 hts gL_law_X7_prime rfl rfl rfl (by decide +kernel) ⟨Nat.le_of_ble_eq_true rfl, Nat.le_of_ble_eq_true rfl⟩) hE 38 rfl rfl rfl rfl hl.1 rfl (Nat.le_of_ble_eq_true rfl) dL_law_211 ⟨Nat.le_of_ble_eq_true rfl, Nat.le_of_ble_eq_true rfl⟩ hP (hD.fst rfl) hS hA [38, 39] [0, 1, 2, 3, 4, 5, 6, 7, 8, 9, 10, 11, 12, 13, 14, 15, 16, 17, 18, 19, 20, 21, 22, 23, 24, 25, 26, 27, 28, 29, 30, 31, 32, 33, 34, 35, 36, 37, 40, 41, 42, 43, 44, 45, 46] [0, 1, 2, 3, 4, 5, 6, 7, 8, 9, 10, 11, 12, 13, 14, 15, 16, 17, 18, 19, 20, 21, 22, 23, 24, 25, 26, 27, 28, 29, 30, 31, 32, 33, 34, 35, 36, 37, 45, 46, 38, 39, 40, 41, 42, 43, 44] rfl rfl (by decide +kernel) (by decide +kernel) rfl (by decide +kernel) (W1 := wd cI cJ aX aM f k h nmn nms nsn nss nen nes nbk nbs np1 ne1 nM1 nwr nwp kmn kms ksn kss ken kes kbk kbs kp ke kM kwr kwp tmn tms tsn tss ten tes tbk tbs tp te tM twr twp tx len nx cn cs so le it hi g1 kg wg tri tb ty fd pl lt fs sc so2 sz it2 ik) rfl (fun H locs hP hS => W.eq (g2 := F0 m 214 ls [.int r, .int r]) rfl ?_)
  refine lv_icmp_eq (tgt := 1390) hx hb dL_law_214 (by decide) (fun _ => ?_) (fun q => absurd rfl q)
  exact kk _ _ ⟨h, nmn, nms, nsn, nss, nen, nes, nbk, nbs, np1, ne1, nM1, nwr, nwp, kmn, kms, ksn, kss, ken, kes, kbk, kbs, kp, ke, kM, kwr, kwp, tmn, tms, tsn, tss, ten, tes, tbk, tbs, tp, te, tM, twr, twp, tx, len, nx, cn, cs, so, le, it, hi, g1, kg, wg, tri, tb, ty, fd, pl, lt, fs, sc, so2, sz, it2, ik, RH, RO, RS1, RK, RR, RT, hP⟩ hS
set_option maxHeartbeats 8000000 in
set_option maxRecDepth 100000 in
theorem lc_power {p : Program} {l : Launch} {e : Env} {s : State} {m : MethodId} {below : List Frame} {meth : Method} {c : Code} {dC : Nat → ClassId} {dI : Nat → Nat → Nat} {cI cJ : ClassId} {b L : Nat} {xs : Nat → Int32} {aX aM aS : Nat} {f k : Nat → Nat} (C : LC p l e s m meth c dC dI cI cJ b L xs aX aM aS f k) {i : Nat} (hi6 : i + 6 ≤ L) {H : Heap} {locs : List Loc} {ls : Array Slot} (J : INV dC dI cI cJ aX aM f k H) (hS : va_S (fun q : Nat => s.heap.size ≤ q) s.heap H locs) (hl : lv_has ls 4 [(0, .ref b), (1, .ref aX), (2, .ref aM), (3, .int (nI i))]) (kk : ∀ (H : Heap) (locs : List Loc), INV dC dI cI cJ aX aM f k H → va_S (fun q : Nat => s.heap.size ≤ q) s.heap H locs → W p l e room_1 s m #[Value.ref b] below meth c H locs 600000 7302250 (lw_Z below #[Value.ref b] s) (F0 m 1390 ls [])) : W p l e room_1 s m #[Value.ref b] below meth c H locs 600000 7302250 (lw_Z below #[Value.ref b] s) (F0 m 219 ls []) := by
  obtain ⟨hx, hb, hml, hown, hts, hX, hbl, hL, hE, hD, hZ, hXS⟩ := C
  obtain ⟨h, nmn, nms, nsn, nss, nen, nes, nbk, nbs, np, ne, nM, nwr, nwp, kmn, kms, ksn, kss, ken, kes, kbk, kbs, kp, ke, kM, kwr, kwp, tmn, tms, tsn, tss, ten, tes, tbk, tbs, tp, te, tM, twr, twp, tx, len, nx, cn, cs, so, le, it, hi, g, kg, wg, tri, tb, ty, fd, pl, lt, fs, sc, so2, sz, it2, ik, RH, RO, RS, RK, RR, RT, hP⟩ := J
  have hA : ∀ q : Nat, s.heap.size ≤ q → (fun q : Nat => s.heap.size ≤ q) q := fun _ h => h
  have hbA : ¬ (fun q : Nat => s.heap.size ≤ q) b := Nat.not_le.mpr hbl
  obtain ⟨r, np1, ne1, nM1, g1, RS1, e6, e7⟩ := pm_power_ RS (xs (i + 1))
  refine lv_aload_n hx hb dL_law_219 rfl (lv_at hl 1 rfl) ?_
  refine lv_aload_n hx hb dL_law_220 rfl (lv_at hl 0 rfl) ?_
  refine lv_iload_n hx hb dL_law_221 rfl (lv_at hl 3 rfl) ?_
  refine lv_iconst (v := (1 : Int32)) hx hb dL_law_222 (by decide) ?_
  refine lv_iadd hx hb dL_law_223 ?_
  refine va_sld hx hb hX hbl hbA hS (sx_i (x := (1 : Int32)) rfl (j := 1) (by omega) hL) dL_law_224 ?_
  refine tp_ (y := xs (i + 1)) (congrArg xs (sx_c (x := (1 : Int32)) rfl (j := 1) (by omega) hL).symm) ?_
  refine mu_V ⟨hx, hb, hml, hown, hts⟩ (k_X6_power l dC dI cI cJ aX (f 0) (f 2) (f 11) (f 20) (f 29) (f 33) (f 3) (f 5) (f 7) (f 9) (xs (i + 1)) hi np ne nM nwr nwp H.size _ e6) (cwV 1 hts gL_law_X6_power rfl rfl rfl (by decide +kernel) ⟨Nat.le_of_ble_eq_true rfl, Nat.le_of_ble_eq_true rfl⟩) hE 0 rfl rfl rfl rfl hl.1 rfl (Nat.le_of_ble_eq_true rfl) dL_law_225 ⟨Nat.le_of_ble_eq_true rfl, Nat.le_of_ble_eq_true rfl⟩ hP (hD.fst rfl) hS hA [0, 3] [1, 2, 4, 5, 6, 7, 8, 9, 10, 11, 12, 13, 14, 15, 16, 17, 18, 19, 20, 21, 22, 23, 24, 25, 26, 27, 28, 29, 30, 31, 32, 33, 34, 35, 36, 37, 38, 39, 40, 41, 42, 43, 44, 45, 46] [45, 0, 1, 46, 2, 3, 4, 5, 6, 7, 8, 9, 10, 11, 12, 13, 14, 15, 16, 17, 18, 19, 20, 21, 22, 23, 24, 25, 26, 27, 28, 29, 30, 31, 32, 33, 34, 35, 36, 37, 38, 39, 40, 41, 42, 43, 44] rfl rfl (by decide +kernel) (by decide +kernel) rfl (by decide +kernel) (W1 := wd cI cJ aX aM f k h nmn nms nsn nss nen nes nbk nbs np1 ne1 nM1 nwr nwp kmn kms ksn kss ken kes kbk kbs kp ke kM kwr kwp tmn tms tsn tss ten tes tbk tbs tp te tM twr twp tx len nx cn cs so le it hi g kg wg tri tb ty fd pl lt fs sc so2 sz it2 ik) rfl (fun H locs hP hS => W.eq (g2 := F0 m 228 ls [.int r]) rfl ?_)
  refine lv_aload_n hx hb dL_law_228 rfl (lv_at hl 2 rfl) ?_
  refine lv_aload_n hx hb dL_law_229 rfl (lv_at hl 0 rfl) ?_
  refine lv_iload_n hx hb dL_law_230 rfl (lv_at hl 3 rfl) ?_
  refine lv_iconst (v := (1 : Int32)) hx hb dL_law_231 (by decide) ?_
  refine lv_iadd hx hb dL_law_232 ?_
  refine va_sld hx hb hX hbl hbA hS (sx_i (x := (1 : Int32)) rfl (j := 1) (by omega) hL) dL_law_233 ?_
  refine tp_ (y := xs (i + 1)) (congrArg xs (sx_c (x := (1 : Int32)) rfl (j := 1) (by omega) hL).symm) ?_
  refine mu_V ⟨hx, hb, hml, hown, hts⟩ (k_X7_power_ l dC dI cI cJ aM (k 0) (k 1) (k 2) (k 3) (k 4) (k 5) (k 6) (k 7) (xs (i + 1)) ik tb fd pl lt fs sc g H.size _ e7) (cwV 1 hts gL_law_X7_power_ rfl rfl rfl (by decide +kernel) ⟨Nat.le_of_ble_eq_true rfl, Nat.le_of_ble_eq_true rfl⟩) hE 38 rfl rfl rfl rfl hl.1 rfl (Nat.le_of_ble_eq_true rfl) dL_law_234 ⟨Nat.le_of_ble_eq_true rfl, Nat.le_of_ble_eq_true rfl⟩ hP (hD.fst rfl) hS hA [38, 39] [0, 1, 2, 3, 4, 5, 6, 7, 8, 9, 10, 11, 12, 13, 14, 15, 16, 17, 18, 19, 20, 21, 22, 23, 24, 25, 26, 27, 28, 29, 30, 31, 32, 33, 34, 35, 36, 37, 40, 41, 42, 43, 44, 45, 46] [0, 1, 2, 3, 4, 5, 6, 7, 8, 9, 10, 11, 12, 13, 14, 15, 16, 17, 18, 19, 20, 21, 22, 23, 24, 25, 26, 27, 28, 29, 30, 31, 32, 33, 34, 35, 36, 37, 45, 46, 38, 39, 40, 41, 42, 43, 44] rfl rfl (by decide +kernel) (by decide +kernel) rfl (by decide +kernel) (W1 := wd cI cJ aX aM f k h nmn nms nsn nss nen nes nbk nbs np1 ne1 nM1 nwr nwp kmn kms ksn kss ken kes kbk kbs kp ke kM kwr kwp tmn tms tsn tss ten tes tbk tbs tp te tM twr twp tx len nx cn cs so le it hi g1 kg wg tri tb ty fd pl lt fs sc so2 sz it2 ik) rfl (fun H locs hP hS => W.eq (g2 := F0 m 237 ls [.int r, .int r]) rfl ?_)
  refine lv_icmp_eq (tgt := 1390) hx hb dL_law_237 (by decide) (fun _ => ?_) (fun q => absurd rfl q)
  exact kk _ _ ⟨h, nmn, nms, nsn, nss, nen, nes, nbk, nbs, np1, ne1, nM1, nwr, nwp, kmn, kms, ksn, kss, ken, kes, kbk, kbs, kp, ke, kM, kwr, kwp, tmn, tms, tsn, tss, ten, tes, tbk, tbs, tp, te, tM, twr, twp, tx, len, nx, cn, cs, so, le, it, hi, g1, kg, wg, tri, tb, ty, fd, pl, lt, fs, sc, so2, sz, it2, ik, RH, RO, RS1, RK, RR, RT, hP⟩ hS
set_option maxHeartbeats 8000000 in
set_option maxRecDepth 100000 in
theorem lc_mark {p : Program} {l : Launch} {e : Env} {s : State} {m : MethodId} {below : List Frame} {meth : Method} {c : Code} {dC : Nat → ClassId} {dI : Nat → Nat → Nat} {cI cJ : ClassId} {b L : Nat} {xs : Nat → Int32} {aX aM aS : Nat} {f k : Nat → Nat} (C : LC p l e s m meth c dC dI cI cJ b L xs aX aM aS f k) {i : Nat} (hi6 : i + 6 ≤ L) {H : Heap} {locs : List Loc} {ls : Array Slot} (J : INV dC dI cI cJ aX aM f k H) (hS : va_S (fun q : Nat => s.heap.size ≤ q) s.heap H locs) (hl : lv_has ls 4 [(0, .ref b), (1, .ref aX), (2, .ref aM), (3, .int (nI i))]) (kk : ∀ (H : Heap) (locs : List Loc), INV dC dI cI cJ aX aM f k H → va_S (fun q : Nat => s.heap.size ≤ q) s.heap H locs → W p l e room_1 s m #[Value.ref b] below meth c H locs 600000 7302250 (lw_Z below #[Value.ref b] s) (F0 m 1390 ls [])) : W p l e room_1 s m #[Value.ref b] below meth c H locs 600000 7302250 (lw_Z below #[Value.ref b] s) (F0 m 242 ls []) := by
  obtain ⟨hx, hb, hml, hown, hts, hX, hbl, hL, hE, hD, hZ, hXS⟩ := C
  obtain ⟨h, nmn, nms, nsn, nss, nen, nes, nbk, nbs, np, ne, nM, nwr, nwp, kmn, kms, ksn, kss, ken, kes, kbk, kbs, kp, ke, kM, kwr, kwp, tmn, tms, tsn, tss, ten, tes, tbk, tbs, tp, te, tM, twr, twp, tx, len, nx, cn, cs, so, le, it, hi, g, kg, wg, tri, tb, ty, fd, pl, lt, fs, sc, so2, sz, it2, ik, RH, RO, RS, RK, RR, RT, hP⟩ := J
  have hA : ∀ q : Nat, s.heap.size ≤ q → (fun q : Nat => s.heap.size ≤ q) q := fun _ h => h
  have hbA : ¬ (fun q : Nat => s.heap.size ≤ q) b := Nat.not_le.mpr hbl
  obtain ⟨r, nmn1, nms1, g1, RS1, e6, e7⟩ := pm_mark RS (xs (i + 1)) (xs (i + 2))
  refine lv_aload_n hx hb dL_law_242 rfl (lv_at hl 1 rfl) ?_
  refine lv_aload_n hx hb dL_law_243 rfl (lv_at hl 0 rfl) ?_
  refine lv_iload_n hx hb dL_law_244 rfl (lv_at hl 3 rfl) ?_
  refine lv_iconst (v := (1 : Int32)) hx hb dL_law_245 (by decide) ?_
  refine lv_iadd hx hb dL_law_246 ?_
  refine va_sld hx hb hX hbl hbA hS (sx_i (x := (1 : Int32)) rfl (j := 1) (by omega) hL) dL_law_247 ?_
  refine tp_ (y := xs (i + 1)) (congrArg xs (sx_c (x := (1 : Int32)) rfl (j := 1) (by omega) hL).symm) ?_
  refine lv_aload_n hx hb dL_law_248 rfl (lv_at hl 0 rfl) ?_
  refine lv_iload_n hx hb dL_law_249 rfl (lv_at hl 3 rfl) ?_
  refine lv_iconst (v := (2 : Int32)) hx hb dL_law_250 (by decide) ?_
  refine lv_iadd hx hb dL_law_251 ?_
  refine va_sld hx hb hX hbl hbA hS (sx_i (x := (2 : Int32)) rfl (j := 2) (by omega) hL) dL_law_252 ?_
  refine tp_ (y := xs (i + 2)) (congrArg xs (sx_c (x := (2 : Int32)) rfl (j := 2) (by omega) hL).symm) ?_
  refine mu_V ⟨hx, hb, hml, hown, hts⟩ (k_X6_mark l dC dI cI cJ aX (f 0) (f 2) (f 11) (f 20) (f 29) (f 33) (f 3) (f 5) (f 7) (f 9) (f 4) (xs (i + 1)) (xs (i + 2)) hi np ne nM nwr nwp nms nmn H.size _ e6) (cwV 2 hts gL_law_X6_mark rfl rfl rfl (by decide +kernel) ⟨Nat.le_of_ble_eq_true rfl, Nat.le_of_ble_eq_true rfl⟩) hE 0 rfl rfl rfl rfl hl.1 rfl (Nat.le_of_ble_eq_true rfl) dL_law_253 ⟨Nat.le_of_ble_eq_true rfl, Nat.le_of_ble_eq_true rfl⟩ hP (hD.fst rfl) hS hA [0, 3, 4, 5] [1, 2, 6, 7, 8, 9, 10, 11, 12, 13, 14, 15, 16, 17, 18, 19, 20, 21, 22, 23, 24, 25, 26, 27, 28, 29, 30, 31, 32, 33, 34, 35, 36, 37, 38, 39, 40, 41, 42, 43, 44, 45, 46] [43, 0, 1, 44, 45, 46, 2, 3, 4, 5, 6, 7, 8, 9, 10, 11, 12, 13, 14, 15, 16, 17, 18, 19, 20, 21, 22, 23, 24, 25, 26, 27, 28, 29, 30, 31, 32, 33, 34, 35, 36, 37, 38, 39, 40, 41, 42] rfl rfl (by decide +kernel) (by decide +kernel) rfl (by decide +kernel) (W1 := wd cI cJ aX aM f k h nmn1 nms1 nsn nss nen nes nbk nbs np ne nM nwr nwp kmn kms ksn kss ken kes kbk kbs kp ke kM kwr kwp tmn tms tsn tss ten tes tbk tbs tp te tM twr twp tx len nx cn cs so le it hi g kg wg tri tb ty fd pl lt fs sc so2 sz it2 ik) rfl (fun H locs hP hS => W.eq (g2 := F0 m 256 ls [.int r]) rfl ?_)
  refine lv_aload_n hx hb dL_law_256 rfl (lv_at hl 2 rfl) ?_
  refine lv_aload_n hx hb dL_law_257 rfl (lv_at hl 0 rfl) ?_
  refine lv_iload_n hx hb dL_law_258 rfl (lv_at hl 3 rfl) ?_
  refine lv_iconst (v := (1 : Int32)) hx hb dL_law_259 (by decide) ?_
  refine lv_iadd hx hb dL_law_260 ?_
  refine va_sld hx hb hX hbl hbA hS (sx_i (x := (1 : Int32)) rfl (j := 1) (by omega) hL) dL_law_261 ?_
  refine tp_ (y := xs (i + 1)) (congrArg xs (sx_c (x := (1 : Int32)) rfl (j := 1) (by omega) hL).symm) ?_
  refine lv_aload_n hx hb dL_law_262 rfl (lv_at hl 0 rfl) ?_
  refine lv_iload_n hx hb dL_law_263 rfl (lv_at hl 3 rfl) ?_
  refine lv_iconst (v := (2 : Int32)) hx hb dL_law_264 (by decide) ?_
  refine lv_iadd hx hb dL_law_265 ?_
  refine va_sld hx hb hX hbl hbA hS (sx_i (x := (2 : Int32)) rfl (j := 2) (by omega) hL) dL_law_266 ?_
  refine tp_ (y := xs (i + 2)) (congrArg xs (sx_c (x := (2 : Int32)) rfl (j := 2) (by omega) hL).symm) ?_
  refine mu_V ⟨hx, hb, hml, hown, hts⟩ (k_X7_mark l dC dI cI cJ aM (k 0) (k 1) (k 2) (k 3) (k 4) (k 5) (k 6) (k 7) (xs (i + 1)) (xs (i + 2)) ik tb fd pl lt fs sc g H.size _ e7) (cwV 2 hts gL_law_X7_mark rfl rfl rfl (by decide +kernel) ⟨Nat.le_of_ble_eq_true rfl, Nat.le_of_ble_eq_true rfl⟩) hE 38 rfl rfl rfl rfl hl.1 rfl (Nat.le_of_ble_eq_true rfl) dL_law_267 ⟨Nat.le_of_ble_eq_true rfl, Nat.le_of_ble_eq_true rfl⟩ hP (hD.fst rfl) hS hA [38, 39] [0, 1, 2, 3, 4, 5, 6, 7, 8, 9, 10, 11, 12, 13, 14, 15, 16, 17, 18, 19, 20, 21, 22, 23, 24, 25, 26, 27, 28, 29, 30, 31, 32, 33, 34, 35, 36, 37, 40, 41, 42, 43, 44, 45, 46] [0, 1, 2, 3, 4, 5, 6, 7, 8, 9, 10, 11, 12, 13, 14, 15, 16, 17, 18, 19, 20, 21, 22, 23, 24, 25, 26, 27, 28, 29, 30, 31, 32, 33, 34, 35, 36, 37, 45, 46, 38, 39, 40, 41, 42, 43, 44] rfl rfl (by decide +kernel) (by decide +kernel) rfl (by decide +kernel) (W1 := wd cI cJ aX aM f k h nmn1 nms1 nsn nss nen nes nbk nbs np ne nM nwr nwp kmn kms ksn kss ken kes kbk kbs kp ke kM kwr kwp tmn tms tsn tss ten tes tbk tbs tp te tM twr twp tx len nx cn cs so le it hi g1 kg wg tri tb ty fd pl lt fs sc so2 sz it2 ik) rfl (fun H locs hP hS => W.eq (g2 := F0 m 270 ls [.int r, .int r]) rfl ?_)
  refine lv_icmp_eq (tgt := 1390) hx hb dL_law_270 (by decide) (fun _ => ?_) (fun q => absurd rfl q)
  exact kk _ _ ⟨h, nmn1, nms1, nsn, nss, nen, nes, nbk, nbs, np, ne, nM, nwr, nwp, kmn, kms, ksn, kss, ken, kes, kbk, kbs, kp, ke, kM, kwr, kwp, tmn, tms, tsn, tss, ten, tes, tbk, tbs, tp, te, tM, twr, twp, tx, len, nx, cn, cs, so, le, it, hi, g1, kg, wg, tri, tb, ty, fd, pl, lt, fs, sc, so2, sz, it2, ik, RH, RO, RS1, RK, RR, RT, hP⟩ hS
set_option maxHeartbeats 8000000 in
set_option maxRecDepth 100000 in
theorem lc_clear {p : Program} {l : Launch} {e : Env} {s : State} {m : MethodId} {below : List Frame} {meth : Method} {c : Code} {dC : Nat → ClassId} {dI : Nat → Nat → Nat} {cI cJ : ClassId} {b L : Nat} {xs : Nat → Int32} {aX aM aS : Nat} {f k : Nat → Nat} (C : LC p l e s m meth c dC dI cI cJ b L xs aX aM aS f k) {i : Nat} (hi6 : i + 6 ≤ L) {H : Heap} {locs : List Loc} {ls : Array Slot} (J : INV dC dI cI cJ aX aM f k H) (hS : va_S (fun q : Nat => s.heap.size ≤ q) s.heap H locs) (hl : lv_has ls 4 [(0, .ref b), (1, .ref aX), (2, .ref aM), (3, .int (nI i))]) (kk : ∀ (H : Heap) (locs : List Loc), INV dC dI cI cJ aX aM f k H → va_S (fun q : Nat => s.heap.size ≤ q) s.heap H locs → W p l e room_1 s m #[Value.ref b] below meth c H locs 600000 7302250 (lw_Z below #[Value.ref b] s) (F0 m 1390 ls [])) : W p l e room_1 s m #[Value.ref b] below meth c H locs 600000 7302250 (lw_Z below #[Value.ref b] s) (F0 m 275 ls []) := by
  obtain ⟨hx, hb, hml, hown, hts, hX, hbl, hL, hE, hD, hZ, hXS⟩ := C
  obtain ⟨h, nmn, nms, nsn, nss, nen, nes, nbk, nbs, np, ne, nM, nwr, nwp, kmn, kms, ksn, kss, ken, kes, kbk, kbs, kp, ke, kM, kwr, kwp, tmn, tms, tsn, tss, ten, tes, tbk, tbs, tp, te, tM, twr, twp, tx, len, nx, cn, cs, so, le, it, hi, g, kg, wg, tri, tb, ty, fd, pl, lt, fs, sc, so2, sz, it2, ik, RH, RO, RS, RK, RR, RT, hP⟩ := J
  have hA : ∀ q : Nat, s.heap.size ≤ q → (fun q : Nat => s.heap.size ≤ q) q := fun _ h => h
  have hbA : ¬ (fun q : Nat => s.heap.size ≤ q) b := Nat.not_le.mpr hbl
  obtain ⟨r, nms1, g1, RS1, e6, e7, _⟩ := pm_clear RS
  refine lv_aload_n hx hb dL_law_275 rfl (lv_at hl 1 rfl) ?_
  refine mu_V ⟨hx, hb, hml, hown, hts⟩ (k_X6_clear l dC dI cI cJ aX (f 0) (f 2) (f 11) (f 20) (f 29) (f 33) (f 3) (f 5) (f 7) (f 9) (f 4) hi np ne nM nwr nwp nms H.size _ e6) (cwV 0 hts gL_law_X6_clear rfl rfl rfl (by decide +kernel) ⟨Nat.le_of_ble_eq_true rfl, Nat.le_of_ble_eq_true rfl⟩) hE 0 rfl rfl rfl rfl hl.1 rfl (Nat.le_of_ble_eq_true rfl) dL_law_276 ⟨Nat.le_of_ble_eq_true rfl, Nat.le_of_ble_eq_true rfl⟩ hP (hD.fst rfl) hS hA [0, 3, 4] [1, 2, 5, 6, 7, 8, 9, 10, 11, 12, 13, 14, 15, 16, 17, 18, 19, 20, 21, 22, 23, 24, 25, 26, 27, 28, 29, 30, 31, 32, 33, 34, 35, 36, 37, 38, 39, 40, 41, 42, 43, 44, 45, 46] [44, 0, 1, 45, 46, 2, 3, 4, 5, 6, 7, 8, 9, 10, 11, 12, 13, 14, 15, 16, 17, 18, 19, 20, 21, 22, 23, 24, 25, 26, 27, 28, 29, 30, 31, 32, 33, 34, 35, 36, 37, 38, 39, 40, 41, 42, 43] rfl rfl (by decide +kernel) (by decide +kernel) rfl (by decide +kernel) (W1 := wd cI cJ aX aM f k h nmn nms1 nsn nss nen nes nbk nbs np ne nM nwr nwp kmn kms ksn kss ken kes kbk kbs kp ke kM kwr kwp tmn tms tsn tss ten tes tbk tbs tp te tM twr twp tx len nx cn cs so le it hi g kg wg tri tb ty fd pl lt fs sc so2 sz it2 ik) rfl (fun H locs hP hS => W.eq (g2 := F0 m 279 ls [.int r]) rfl ?_)
  refine lv_aload_n hx hb dL_law_279 rfl (lv_at hl 2 rfl) ?_
  refine mu_V ⟨hx, hb, hml, hown, hts⟩ (k_X7_clear l dC dI cI cJ aM (k 0) (k 1) (k 2) (k 3) (k 4) (k 5) (k 6) (k 7) ik tb fd pl lt fs sc g H.size _ e7) (cwV 0 hts gL_law_X7_clear rfl rfl rfl (by decide +kernel) ⟨Nat.le_of_ble_eq_true rfl, Nat.le_of_ble_eq_true rfl⟩) hE 38 rfl rfl rfl rfl hl.1 rfl (Nat.le_of_ble_eq_true rfl) dL_law_280 ⟨Nat.le_of_ble_eq_true rfl, Nat.le_of_ble_eq_true rfl⟩ hP (hD.fst rfl) hS hA [38, 39] [0, 1, 2, 3, 4, 5, 6, 7, 8, 9, 10, 11, 12, 13, 14, 15, 16, 17, 18, 19, 20, 21, 22, 23, 24, 25, 26, 27, 28, 29, 30, 31, 32, 33, 34, 35, 36, 37, 40, 41, 42, 43, 44, 45, 46] [0, 1, 2, 3, 4, 5, 6, 7, 8, 9, 10, 11, 12, 13, 14, 15, 16, 17, 18, 19, 20, 21, 22, 23, 24, 25, 26, 27, 28, 29, 30, 31, 32, 33, 34, 35, 36, 37, 45, 46, 38, 39, 40, 41, 42, 43, 44] rfl rfl (by decide +kernel) (by decide +kernel) rfl (by decide +kernel) (W1 := wd cI cJ aX aM f k h nmn nms1 nsn nss nen nes nbk nbs np ne nM nwr nwp kmn kms ksn kss ken kes kbk kbs kp ke kM kwr kwp tmn tms tsn tss ten tes tbk tbs tp te tM twr twp tx len nx cn cs so le it hi g1 kg wg tri tb ty fd pl lt fs sc so2 sz it2 ik) rfl (fun H locs hP hS => W.eq (g2 := F0 m 283 ls [.int r, .int r]) rfl ?_)
  refine lv_icmp_eq (tgt := 1390) hx hb dL_law_283 (by decide) (fun _ => ?_) (fun q => absurd rfl q)
  exact kk _ _ ⟨h, nmn, nms1, nsn, nss, nen, nes, nbk, nbs, np, ne, nM, nwr, nwp, kmn, kms, ksn, kss, ken, kes, kbk, kbs, kp, ke, kM, kwr, kwp, tmn, tms, tsn, tss, ten, tes, tbk, tbs, tp, te, tM, twr, twp, tx, len, nx, cn, cs, so, le, it, hi, g1, kg, wg, tri, tb, ty, fd, pl, lt, fs, sc, so2, sz, it2, ik, RH, RO, RS1, RK, RR, RT, hP⟩ hS
set_option maxHeartbeats 8000000 in
set_option maxRecDepth 100000 in
theorem lc_window {p : Program} {l : Launch} {e : Env} {s : State} {m : MethodId} {below : List Frame} {meth : Method} {c : Code} {dC : Nat → ClassId} {dI : Nat → Nat → Nat} {cI cJ : ClassId} {b L : Nat} {xs : Nat → Int32} {aX aM aS : Nat} {f k : Nat → Nat} (C : LC p l e s m meth c dC dI cI cJ b L xs aX aM aS f k) {i : Nat} (hi6 : i + 6 ≤ L) {H : Heap} {locs : List Loc} {ls : Array Slot} (J : INV dC dI cI cJ aX aM f k H) (hS : va_S (fun q : Nat => s.heap.size ≤ q) s.heap H locs) (hl : lv_has ls 4 [(0, .ref b), (1, .ref aX), (2, .ref aM), (3, .int (nI i))]) (kk : ∀ (H : Heap) (locs : List Loc), INV dC dI cI cJ aX aM f k H → va_S (fun q : Nat => s.heap.size ≤ q) s.heap H locs → W p l e room_1 s m #[Value.ref b] below meth c H locs 600000 7302250 (lw_Z below #[Value.ref b] s) (F0 m 1390 ls [])) : W p l e room_1 s m #[Value.ref b] below meth c H locs 600000 7302250 (lw_Z below #[Value.ref b] s) (F0 m 288 ls []) := by
  obtain ⟨hx, hb, hml, hown, hts, hX, hbl, hL, hE, hD, hZ, hXS⟩ := C
  obtain ⟨h, nmn, nms, nsn, nss, nen, nes, nbk, nbs, np, ne, nM, nwr, nwp, kmn, kms, ksn, kss, ken, kes, kbk, kbs, kp, ke, kM, kwr, kwp, tmn, tms, tsn, tss, ten, tes, tbk, tbs, tp, te, tM, twr, twp, tx, len, nx, cn, cs, so, le, it, hi, g, kg, wg, tri, tb, ty, fd, pl, lt, fs, sc, so2, sz, it2, ik, RH, RO, RS, RK, RR, RT, hP⟩ := J
  have hA : ∀ q : Nat, s.heap.size ≤ q → (fun q : Nat => s.heap.size ≤ q) q := fun _ h => h
  have hbA : ¬ (fun q : Nat => s.heap.size ≤ q) b := Nat.not_le.mpr hbl
  obtain ⟨r, nwr1, nwp1, g1, RS1, e6, e7⟩ := pm_window RS (xs (i + 1)) (xs (i + 2))
  refine lv_aload_n hx hb dL_law_288 rfl (lv_at hl 1 rfl) ?_
  refine lv_aload_n hx hb dL_law_289 rfl (lv_at hl 0 rfl) ?_
  refine lv_iload_n hx hb dL_law_290 rfl (lv_at hl 3 rfl) ?_
  refine lv_iconst (v := (1 : Int32)) hx hb dL_law_291 (by decide) ?_
  refine lv_iadd hx hb dL_law_292 ?_
  refine va_sld hx hb hX hbl hbA hS (sx_i (x := (1 : Int32)) rfl (j := 1) (by omega) hL) dL_law_293 ?_
  refine tp_ (y := xs (i + 1)) (congrArg xs (sx_c (x := (1 : Int32)) rfl (j := 1) (by omega) hL).symm) ?_
  refine lv_aload_n hx hb dL_law_294 rfl (lv_at hl 0 rfl) ?_
  refine lv_iload_n hx hb dL_law_295 rfl (lv_at hl 3 rfl) ?_
  refine lv_iconst (v := (2 : Int32)) hx hb dL_law_296 (by decide) ?_
  refine lv_iadd hx hb dL_law_297 ?_
  refine va_sld hx hb hX hbl hbA hS (sx_i (x := (2 : Int32)) rfl (j := 2) (by omega) hL) dL_law_298 ?_
  refine tp_ (y := xs (i + 2)) (congrArg xs (sx_c (x := (2 : Int32)) rfl (j := 2) (by omega) hL).symm) ?_
  refine mu_V ⟨hx, hb, hml, hown, hts⟩ (k_X6_window l dC dI cI cJ aX (f 0) (f 2) (f 11) (f 20) (f 29) (f 33) (f 3) (f 5) (f 7) (f 9) (xs (i + 1)) (xs (i + 2)) hi np ne nM nwr nwp H.size _ e6) (cwV 2 hts gL_law_X6_window rfl rfl rfl (by decide +kernel) ⟨Nat.le_of_ble_eq_true rfl, Nat.le_of_ble_eq_true rfl⟩) hE 0 rfl rfl rfl rfl hl.1 rfl (Nat.le_of_ble_eq_true rfl) dL_law_299 ⟨Nat.le_of_ble_eq_true rfl, Nat.le_of_ble_eq_true rfl⟩ hP (hD.fst rfl) hS hA [0, 3] [1, 2, 4, 5, 6, 7, 8, 9, 10, 11, 12, 13, 14, 15, 16, 17, 18, 19, 20, 21, 22, 23, 24, 25, 26, 27, 28, 29, 30, 31, 32, 33, 34, 35, 36, 37, 38, 39, 40, 41, 42, 43, 44, 45, 46] [45, 0, 1, 46, 2, 3, 4, 5, 6, 7, 8, 9, 10, 11, 12, 13, 14, 15, 16, 17, 18, 19, 20, 21, 22, 23, 24, 25, 26, 27, 28, 29, 30, 31, 32, 33, 34, 35, 36, 37, 38, 39, 40, 41, 42, 43, 44] rfl rfl (by decide +kernel) (by decide +kernel) rfl (by decide +kernel) (W1 := wd cI cJ aX aM f k h nmn nms nsn nss nen nes nbk nbs np ne nM nwr1 nwp1 kmn kms ksn kss ken kes kbk kbs kp ke kM kwr kwp tmn tms tsn tss ten tes tbk tbs tp te tM twr twp tx len nx cn cs so le it hi g kg wg tri tb ty fd pl lt fs sc so2 sz it2 ik) rfl (fun H locs hP hS => W.eq (g2 := F0 m 302 ls [.int r]) rfl ?_)
  refine lv_aload_n hx hb dL_law_302 rfl (lv_at hl 2 rfl) ?_
  refine lv_aload_n hx hb dL_law_303 rfl (lv_at hl 0 rfl) ?_
  refine lv_iload_n hx hb dL_law_304 rfl (lv_at hl 3 rfl) ?_
  refine lv_iconst (v := (1 : Int32)) hx hb dL_law_305 (by decide) ?_
  refine lv_iadd hx hb dL_law_306 ?_
  refine va_sld hx hb hX hbl hbA hS (sx_i (x := (1 : Int32)) rfl (j := 1) (by omega) hL) dL_law_307 ?_
  refine tp_ (y := xs (i + 1)) (congrArg xs (sx_c (x := (1 : Int32)) rfl (j := 1) (by omega) hL).symm) ?_
  refine lv_aload_n hx hb dL_law_308 rfl (lv_at hl 0 rfl) ?_
  refine lv_iload_n hx hb dL_law_309 rfl (lv_at hl 3 rfl) ?_
  refine lv_iconst (v := (2 : Int32)) hx hb dL_law_310 (by decide) ?_
  refine lv_iadd hx hb dL_law_311 ?_
  refine va_sld hx hb hX hbl hbA hS (sx_i (x := (2 : Int32)) rfl (j := 2) (by omega) hL) dL_law_312 ?_
  refine tp_ (y := xs (i + 2)) (congrArg xs (sx_c (x := (2 : Int32)) rfl (j := 2) (by omega) hL).symm) ?_
  refine mu_V ⟨hx, hb, hml, hown, hts⟩ (k_X7_window l dC dI cI cJ aM (k 0) (k 1) (k 2) (k 3) (k 4) (k 5) (k 6) (k 7) (xs (i + 1)) (xs (i + 2)) ik tb fd pl lt fs sc g H.size _ e7) (cwV 2 hts gL_law_X7_window rfl rfl rfl (by decide +kernel) ⟨Nat.le_of_ble_eq_true rfl, Nat.le_of_ble_eq_true rfl⟩) hE 38 rfl rfl rfl rfl hl.1 rfl (Nat.le_of_ble_eq_true rfl) dL_law_313 ⟨Nat.le_of_ble_eq_true rfl, Nat.le_of_ble_eq_true rfl⟩ hP (hD.fst rfl) hS hA [38, 39] [0, 1, 2, 3, 4, 5, 6, 7, 8, 9, 10, 11, 12, 13, 14, 15, 16, 17, 18, 19, 20, 21, 22, 23, 24, 25, 26, 27, 28, 29, 30, 31, 32, 33, 34, 35, 36, 37, 40, 41, 42, 43, 44, 45, 46] [0, 1, 2, 3, 4, 5, 6, 7, 8, 9, 10, 11, 12, 13, 14, 15, 16, 17, 18, 19, 20, 21, 22, 23, 24, 25, 26, 27, 28, 29, 30, 31, 32, 33, 34, 35, 36, 37, 45, 46, 38, 39, 40, 41, 42, 43, 44] rfl rfl (by decide +kernel) (by decide +kernel) rfl (by decide +kernel) (W1 := wd cI cJ aX aM f k h nmn nms nsn nss nen nes nbk nbs np ne nM nwr1 nwp1 kmn kms ksn kss ken kes kbk kbs kp ke kM kwr kwp tmn tms tsn tss ten tes tbk tbs tp te tM twr twp tx len nx cn cs so le it hi g1 kg wg tri tb ty fd pl lt fs sc so2 sz it2 ik) rfl (fun H locs hP hS => W.eq (g2 := F0 m 316 ls [.int r, .int r]) rfl ?_)
  refine lv_icmp_eq (tgt := 1390) hx hb dL_law_316 (by decide) (fun _ => ?_) (fun q => absurd rfl q)
  exact kk _ _ ⟨h, nmn, nms, nsn, nss, nen, nes, nbk, nbs, np, ne, nM, nwr1, nwp1, kmn, kms, ksn, kss, ken, kes, kbk, kbs, kp, ke, kM, kwr, kwp, tmn, tms, tsn, tss, ten, tes, tbk, tbs, tp, te, tM, twr, twp, tx, len, nx, cn, cs, so, le, it, hi, g1, kg, wg, tri, tb, ty, fd, pl, lt, fs, sc, so2, sz, it2, ik, RH, RO, RS1, RK, RR, RT, hP⟩ hS
set_option maxHeartbeats 8000000 in
set_option maxRecDepth 100000 in
theorem lc_feed {p : Program} {l : Launch} {e : Env} {s : State} {m : MethodId} {below : List Frame} {meth : Method} {c : Code} {dC : Nat → ClassId} {dI : Nat → Nat → Nat} {cI cJ : ClassId} {b L : Nat} {xs : Nat → Int32} {aX aM aS : Nat} {f k : Nat → Nat} (C : LC p l e s m meth c dC dI cI cJ b L xs aX aM aS f k) {i : Nat} (hi6 : i + 6 ≤ L) {H : Heap} {locs : List Loc} {ls : Array Slot} (J : INV dC dI cI cJ aX aM f k H) (hS : va_S (fun q : Nat => s.heap.size ≤ q) s.heap H locs) (hl : lv_has ls 4 [(0, .ref b), (1, .ref aX), (2, .ref aM), (3, .int (nI i))]) (kk : ∀ (H : Heap) (locs : List Loc), INV dC dI cI cJ aX aM f k H → va_S (fun q : Nat => s.heap.size ≤ q) s.heap H locs → W p l e room_1 s m #[Value.ref b] below meth c H locs 600000 7302250 (lw_Z below #[Value.ref b] s) (F0 m 1390 ls [])) : W p l e room_1 s m #[Value.ref b] below meth c H locs 600000 7302250 (lw_Z below #[Value.ref b] s) (F0 m 321 ls []) := by
  obtain ⟨hx, hb, hml, hown, hts, hX, hbl, hL, hE, hD, hZ, hXS⟩ := C
  obtain ⟨h, nmn, nms, nsn, nss, nen, nes, nbk, nbs, np, ne, nM, nwr, nwp, kmn, kms, ksn, kss, ken, kes, kbk, kbs, kp, ke, kM, kwr, kwp, tmn, tms, tsn, tss, ten, tes, tbk, tbs, tp, te, tM, twr, twp, tx, len, nx, cn, cs, so, le, it, hi, g, kg, wg, tri, tb, ty, fd, pl, lt, fs, sc, so2, sz, it2, ik, RH, RO, RS, RK, RR, RT, hP⟩ := J
  have hA : ∀ q : Nat, s.heap.size ≤ q → (fun q : Nat => s.heap.size ≤ q) q := fun _ h => h
  have hbA : ¬ (fun q : Nat => s.heap.size ≤ q) b := Nat.not_le.mpr hbl
  obtain ⟨r, tx1, len1, ty1, fd1, RR1, e6, e7⟩ := pm_feed RR (xs (i + 1))
  refine lv_aload_n hx hb dL_law_321 rfl (lv_at hl 1 rfl) ?_
  refine lv_aload_n hx hb dL_law_322 rfl (lv_at hl 0 rfl) ?_
  refine lv_iload_n hx hb dL_law_323 rfl (lv_at hl 3 rfl) ?_
  refine lv_iconst (v := (1 : Int32)) hx hb dL_law_324 (by decide) ?_
  refine lv_iadd hx hb dL_law_325 ?_
  refine va_sld hx hb hX hbl hbA hS (sx_i (x := (1 : Int32)) rfl (j := 1) (by omega) hL) dL_law_326 ?_
  refine tp_ (y := xs (i + 1)) (congrArg xs (sx_c (x := (1 : Int32)) rfl (j := 1) (by omega) hL).symm) ?_
  refine mu_V ⟨hx, hb, hml, hown, hts⟩ (k_X6_feed l dC dI cI cJ aX (f 0) (f 2) (f 11) (f 20) (f 29) (f 33) (f 30) (f 31) (xs (i + 1)) hi len nx tx H.size _ e6) (cwV 1 hts gL_law_X6_feed rfl rfl rfl (by decide +kernel) ⟨Nat.le_of_ble_eq_true rfl, Nat.le_of_ble_eq_true rfl⟩) hE 0 rfl rfl rfl rfl hl.1 rfl (Nat.le_of_ble_eq_true rfl) dL_law_327 ⟨Nat.le_of_ble_eq_true rfl, Nat.le_of_ble_eq_true rfl⟩ hP (hD.fst rfl) hS hA [0, 30, 31] [1, 2, 3, 4, 5, 6, 7, 8, 9, 10, 11, 12, 13, 14, 15, 16, 17, 18, 19, 20, 21, 22, 23, 24, 25, 26, 27, 28, 29, 32, 33, 34, 35, 36, 37, 38, 39, 40, 41, 42, 43, 44, 45, 46] [44, 0, 1, 2, 3, 4, 5, 6, 7, 8, 9, 10, 11, 12, 13, 14, 15, 16, 17, 18, 19, 20, 21, 22, 23, 24, 25, 26, 27, 28, 45, 46, 29, 30, 31, 32, 33, 34, 35, 36, 37, 38, 39, 40, 41, 42, 43] rfl rfl (by decide +kernel) (by decide +kernel) rfl (by decide +kernel) (W1 := wd cI cJ aX aM f k h nmn nms nsn nss nen nes nbk nbs np ne nM nwr nwp kmn kms ksn kss ken kes kbk kbs kp ke kM kwr kwp tmn tms tsn tss ten tes tbk tbs tp te tM twr twp tx1 len1 nx cn cs so le it hi g kg wg tri tb ty fd pl lt fs sc so2 sz it2 ik) rfl (fun H locs hP hS => W.eq (g2 := F0 m 330 ls [.int r]) rfl ?_)
  refine lv_aload_n hx hb dL_law_330 rfl (lv_at hl 2 rfl) ?_
  refine lv_aload_n hx hb dL_law_331 rfl (lv_at hl 0 rfl) ?_
  refine lv_iload_n hx hb dL_law_332 rfl (lv_at hl 3 rfl) ?_
  refine lv_iconst (v := (1 : Int32)) hx hb dL_law_333 (by decide) ?_
  refine lv_iadd hx hb dL_law_334 ?_
  refine va_sld hx hb hX hbl hbA hS (sx_i (x := (1 : Int32)) rfl (j := 1) (by omega) hL) dL_law_335 ?_
  refine tp_ (y := xs (i + 1)) (congrArg xs (sx_c (x := (1 : Int32)) rfl (j := 1) (by omega) hL).symm) ?_
  refine mu_V ⟨hx, hb, hml, hown, hts⟩ (k_X7_feed l dC dI cI cJ aM (k 0) (k 1) (k 2) (k 3) (k 4) (k 5) (k 6) (k 7) (xs (i + 1)) ik tb fd pl lt fs sc ty H.size _ e7) (cwV 1 hts gL_law_X7_feed rfl rfl rfl (by decide +kernel) ⟨Nat.le_of_ble_eq_true rfl, Nat.le_of_ble_eq_true rfl⟩) hE 38 rfl rfl rfl rfl hl.1 rfl (Nat.le_of_ble_eq_true rfl) dL_law_336 ⟨Nat.le_of_ble_eq_true rfl, Nat.le_of_ble_eq_true rfl⟩ hP (hD.fst rfl) hS hA [38, 43] [0, 1, 2, 3, 4, 5, 6, 7, 8, 9, 10, 11, 12, 13, 14, 15, 16, 17, 18, 19, 20, 21, 22, 23, 24, 25, 26, 27, 28, 29, 30, 31, 32, 33, 34, 35, 36, 37, 39, 40, 41, 42, 44, 45, 46] [0, 1, 2, 3, 4, 5, 6, 7, 8, 9, 10, 11, 12, 13, 14, 15, 16, 17, 18, 19, 20, 21, 22, 23, 24, 25, 26, 27, 28, 29, 30, 31, 32, 33, 34, 35, 36, 37, 45, 38, 39, 40, 41, 46, 42, 43, 44] rfl rfl (by decide +kernel) (by decide +kernel) rfl (by decide +kernel) (W1 := wd cI cJ aX aM f k h nmn nms nsn nss nen nes nbk nbs np ne nM nwr nwp kmn kms ksn kss ken kes kbk kbs kp ke kM kwr kwp tmn tms tsn tss ten tes tbk tbs tp te tM twr twp tx1 len1 nx cn cs so le it hi g kg wg tri tb ty1 fd1 pl lt fs sc so2 sz it2 ik) rfl (fun H locs hP hS => W.eq (g2 := F0 m 339 ls [.int r, .int r]) rfl ?_)
  refine lv_icmp_eq (tgt := 1390) hx hb dL_law_339 (by decide) (fun _ => ?_) (fun q => absurd rfl q)
  exact kk _ _ ⟨h, nmn, nms, nsn, nss, nen, nes, nbk, nbs, np, ne, nM, nwr, nwp, kmn, kms, ksn, kss, ken, kes, kbk, kbs, kp, ke, kM, kwr, kwp, tmn, tms, tsn, tss, ten, tes, tbk, tbs, tp, te, tM, twr, twp, tx1, len1, nx, cn, cs, so, le, it, hi, g, kg, wg, tri, tb, ty1, fd1, pl, lt, fs, sc, so2, sz, it2, ik, RH, RO, RS, RK, RR1, RT, hP⟩ hS
set_option maxHeartbeats 8000000 in
set_option maxRecDepth 100000 in
theorem lc_read {p : Program} {l : Launch} {e : Env} {s : State} {m : MethodId} {below : List Frame} {meth : Method} {c : Code} {dC : Nat → ClassId} {dI : Nat → Nat → Nat} {cI cJ : ClassId} {b L : Nat} {xs : Nat → Int32} {aX aM aS : Nat} {f k : Nat → Nat} (C : LC p l e s m meth c dC dI cI cJ b L xs aX aM aS f k) {i : Nat} (hi6 : i + 6 ≤ L) {H : Heap} {locs : List Loc} {ls : Array Slot} (J : INV dC dI cI cJ aX aM f k H) (hS : va_S (fun q : Nat => s.heap.size ≤ q) s.heap H locs) (hl : lv_has ls 4 [(0, .ref b), (1, .ref aX), (2, .ref aM), (3, .int (nI i))]) (kk : ∀ (H : Heap) (locs : List Loc), INV dC dI cI cJ aX aM f k H → va_S (fun q : Nat => s.heap.size ≤ q) s.heap H locs → W p l e room_1 s m #[Value.ref b] below meth c H locs 600000 7302250 (lw_Z below #[Value.ref b] s) (F0 m 1390 ls [])) : W p l e room_1 s m #[Value.ref b] below meth c H locs 600000 7302250 (lw_Z below #[Value.ref b] s) (F0 m 344 ls []) := by
  obtain ⟨hx, hb, hml, hown, hts, hX, hbl, hL, hE, hD, hZ, hXS⟩ := C
  obtain ⟨h, nmn, nms, nsn, nss, nen, nes, nbk, nbs, np, ne, nM, nwr, nwp, kmn, kms, ksn, kss, ken, kes, kbk, kbs, kp, ke, kM, kwr, kwp, tmn, tms, tsn, tss, ten, tes, tbk, tbs, tp, te, tM, twr, twp, tx, len, nx, cn, cs, so, le, it, hi, g, kg, wg, tri, tb, ty, fd, pl, lt, fs, sc, so2, sz, it2, ik, RH, RO, RS, RK, RR, RT, hP⟩ := J
  have hA : ∀ q : Nat, s.heap.size ≤ q → (fun q : Nat => s.heap.size ≤ q) q := fun _ h => h
  have hbA : ¬ (fun q : Nat => s.heap.size ≤ q) b := Nat.not_le.mpr hbl
  obtain ⟨r, nmn1, nms1, np1, ne1, nM1, nwr1, nwp1, cn1, cs1, len1, nx1, g1, fd1, pl1, lt1, fs1, sc1, RS1, RR1, e6, e7⟩ := pm_read (cn := cn) (cs := cs) (nx := nx) (pl := pl) (l0 := lt) (f0 := fs) (s0 := sc) RS RR
  refine lv_aload_n hx hb dL_law_344 rfl (lv_at hl 1 rfl) ?_
  refine mu_V ⟨hx, hb, hml, hown, hts⟩ (k_X6_read l dC dI cI cJ aX (f 0) (f 2) (f 11) (f 20) (f 29) (f 33) (f 3) (f 5) (f 7) (f 9) (f 4) (f 30) (f 31) (f 32) hi np ne nM nwr nwp nms nmn len nx tx cs cn H.size _ e6) (cwV 0 hts gL_law_X6_read rfl rfl rfl (by decide +kernel) ⟨Nat.le_of_ble_eq_true rfl, Nat.le_of_ble_eq_true rfl⟩) hE 0 rfl rfl rfl rfl hl.1 rfl (Nat.le_of_ble_eq_true rfl) dL_law_345 ⟨Nat.le_of_ble_eq_true rfl, Nat.le_of_ble_eq_true rfl⟩ hP (hD.fst rfl) hS hA [0, 3, 4, 5, 30, 31, 32, 33] [1, 2, 6, 7, 8, 9, 10, 11, 12, 13, 14, 15, 16, 17, 18, 19, 20, 21, 22, 23, 24, 25, 26, 27, 28, 29, 34, 35, 36, 37, 38, 39, 40, 41, 42, 43, 44, 45, 46] [39, 0, 1, 40, 41, 42, 2, 3, 4, 5, 6, 7, 8, 9, 10, 11, 12, 13, 14, 15, 16, 17, 18, 19, 20, 21, 22, 23, 24, 25, 43, 44, 45, 46, 26, 27, 28, 29, 30, 31, 32, 33, 34, 35, 36, 37, 38] rfl rfl (by decide +kernel) (by decide +kernel) rfl (by decide +kernel) (W1 := wd cI cJ aX aM f k h nmn1 nms1 nsn nss nen nes nbk nbs np1 ne1 nM1 nwr1 nwp1 kmn kms ksn kss ken kes kbk kbs kp ke kM kwr kwp tmn tms tsn tss ten tes tbk tbs tp te tM twr twp tx len1 nx1 cn1 cs1 so le it hi g kg wg tri tb ty fd pl lt fs sc so2 sz it2 ik) rfl (fun H locs hP hS => W.eq (g2 := F0 m 348 ls [.int r]) rfl ?_)
  refine lv_aload_n hx hb dL_law_348 rfl (lv_at hl 2 rfl) ?_
  refine mu_V ⟨hx, hb, hml, hown, hts⟩ (k_X7_read l dC dI cI cJ aM (k 0) (k 1) (k 2) (k 3) (k 4) (k 5) (k 6) (k 7) ik tb fd pl lt fs sc g ty H.size _ e7) (cwV 0 hts gL_law_X7_read rfl rfl rfl (by decide +kernel) ⟨Nat.le_of_ble_eq_true rfl, Nat.le_of_ble_eq_true rfl⟩) hE 38 rfl rfl rfl rfl hl.1 rfl (Nat.le_of_ble_eq_true rfl) dL_law_349 ⟨Nat.le_of_ble_eq_true rfl, Nat.le_of_ble_eq_true rfl⟩ hP (hD.fst rfl) hS hA [38, 39, 43] [0, 1, 2, 3, 4, 5, 6, 7, 8, 9, 10, 11, 12, 13, 14, 15, 16, 17, 18, 19, 20, 21, 22, 23, 24, 25, 26, 27, 28, 29, 30, 31, 32, 33, 34, 35, 36, 37, 40, 41, 42, 44, 45, 46] [0, 1, 2, 3, 4, 5, 6, 7, 8, 9, 10, 11, 12, 13, 14, 15, 16, 17, 18, 19, 20, 21, 22, 23, 24, 25, 26, 27, 28, 29, 30, 31, 32, 33, 34, 35, 36, 37, 44, 45, 38, 39, 40, 46, 41, 42, 43] rfl rfl (by decide +kernel) (by decide +kernel) rfl (by decide +kernel) (W1 := wd cI cJ aX aM f k h nmn1 nms1 nsn nss nen nes nbk nbs np1 ne1 nM1 nwr1 nwp1 kmn kms ksn kss ken kes kbk kbs kp ke kM kwr kwp tmn tms tsn tss ten tes tbk tbs tp te tM twr twp tx len1 nx1 cn1 cs1 so le it hi g1 kg wg tri tb ty fd1 pl1 lt1 fs1 sc1 so2 sz it2 ik) rfl (fun H locs hP hS => W.eq (g2 := F0 m 352 ls [.int r, .int r]) rfl ?_)
  refine lv_icmp_eq (tgt := 1390) hx hb dL_law_352 (by decide) (fun _ => ?_) (fun q => absurd rfl q)
  exact kk _ _ ⟨h, nmn1, nms1, nsn, nss, nen, nes, nbk, nbs, np1, ne1, nM1, nwr1, nwp1, kmn, kms, ksn, kss, ken, kes, kbk, kbs, kp, ke, kM, kwr, kwp, tmn, tms, tsn, tss, ten, tes, tbk, tbs, tp, te, tM, twr, twp, tx, len1, nx1, cn1, cs1, so, le, it, hi, g1, kg, wg, tri, tb, ty, fd1, pl1, lt1, fs1, sc1, so2, sz, it2, ik, RH, RO, RS1, RK, RR1, RT, hP⟩ hS
set_option maxHeartbeats 8000000 in
set_option maxRecDepth 100000 in
theorem lc_told {p : Program} {l : Launch} {e : Env} {s : State} {m : MethodId} {below : List Frame} {meth : Method} {c : Code} {dC : Nat → ClassId} {dI : Nat → Nat → Nat} {cI cJ : ClassId} {b L : Nat} {xs : Nat → Int32} {aX aM aS : Nat} {f k : Nat → Nat} (C : LC p l e s m meth c dC dI cI cJ b L xs aX aM aS f k) {i : Nat} (hi6 : i + 6 ≤ L) {H : Heap} {locs : List Loc} {ls : Array Slot} (J : INV dC dI cI cJ aX aM f k H) (hS : va_S (fun q : Nat => s.heap.size ≤ q) s.heap H locs) (hl : lv_has ls 4 [(0, .ref b), (1, .ref aX), (2, .ref aM), (3, .int (nI i))]) (kk : ∀ (H : Heap) (locs : List Loc), INV dC dI cI cJ aX aM f k H → va_S (fun q : Nat => s.heap.size ≤ q) s.heap H locs → W p l e room_1 s m #[Value.ref b] below meth c H locs 600000 7302250 (lw_Z below #[Value.ref b] s) (F0 m 1390 ls [])) : W p l e room_1 s m #[Value.ref b] below meth c H locs 600000 7302250 (lw_Z below #[Value.ref b] s) (F0 m 357 ls []) := by
  obtain ⟨hx, hb, hml, hown, hts, hX, hbl, hL, hE, hD, hZ, hXS⟩ := C
  obtain ⟨h, nmn, nms, nsn, nss, nen, nes, nbk, nbs, np, ne, nM, nwr, nwp, kmn, kms, ksn, kss, ken, kes, kbk, kbs, kp, ke, kM, kwr, kwp, tmn, tms, tsn, tss, ten, tes, tbk, tbs, tp, te, tM, twr, twp, tx, len, nx, cn, cs, so, le, it, hi, g, kg, wg, tri, tb, ty, fd, pl, lt, fs, sc, so2, sz, it2, ik, RH, RO, RS, RK, RR, RT, hP⟩ := J
  have hA : ∀ q : Nat, s.heap.size ≤ q → (fun q : Nat => s.heap.size ≤ q) q := fun _ h => h
  have hbA : ¬ (fun q : Nat => s.heap.size ≤ q) b := Nat.not_le.mpr hbl
  obtain ⟨r, ⟨tri1, tb1⟩, RO1, e6, e7⟩ := pm_told (t := (tri, tb)) RS RH RO (xs (i + 1))
  refine lv_aload_n hx hb dL_law_357 rfl (lv_at hl 1 rfl) ?_
  refine lv_aload_n hx hb dL_law_358 rfl (lv_at hl 0 rfl) ?_
  refine lv_iload_n hx hb dL_law_359 rfl (lv_at hl 3 rfl) ?_
  refine lv_iconst (v := (1 : Int32)) hx hb dL_law_360 (by decide) ?_
  refine lv_iadd hx hb dL_law_361 ?_
  refine va_sld hx hb hX hbl hbA hS (sx_i (x := (1 : Int32)) rfl (j := 1) (by omega) hL) dL_law_362 ?_
  refine tp_ (y := xs (i + 1)) (congrArg xs (sx_c (x := (1 : Int32)) rfl (j := 1) (by omega) hL).symm) ?_
  refine ro_V ⟨hx, hb, hml, hown, hts⟩ (k_X6_told l dC dI cI cJ aX (f 0) (f 2) (f 11) (f 20) (f 29) (f 33) (f 1) (f 3) (f 5) (f 7) (f 9) (f 4) (xs (i + 1)) hi h np ne nM nwr nwp nms nmn _ e6) (cwV 1 hts gL_law_X6_told rfl rfl rfl (by decide +kernel) ⟨Nat.le_of_ble_eq_true rfl, Nat.le_of_ble_eq_true rfl⟩) hE hP 0 rfl rfl rfl (hP.sub [0, 1, 2, 3, 4, 5] rfl) rfl hl.1 rfl (Nat.le_of_ble_eq_true rfl) dL_law_363 ⟨Nat.le_of_ble_eq_true rfl, Nat.le_of_ble_eq_true rfl⟩ ?_
  refine lv_aload_n hx hb dL_law_366 rfl (lv_at hl 2 rfl) ?_
  refine lv_aload_n hx hb dL_law_367 rfl (lv_at hl 0 rfl) ?_
  refine lv_iload_n hx hb dL_law_368 rfl (lv_at hl 3 rfl) ?_
  refine lv_iconst (v := (1 : Int32)) hx hb dL_law_369 (by decide) ?_
  refine lv_iadd hx hb dL_law_370 ?_
  refine va_sld hx hb hX hbl hbA hS (sx_i (x := (1 : Int32)) rfl (j := 1) (by omega) hL) dL_law_371 ?_
  refine tp_ (y := xs (i + 1)) (congrArg xs (sx_c (x := (1 : Int32)) rfl (j := 1) (by omega) hL).symm) ?_
  refine mu_V ⟨hx, hb, hml, hown, hts⟩ (k_X7_told l dC dI cI cJ aM (k 0) (k 1) (k 2) (k 3) (k 4) (k 5) (k 6) (k 7) (xs (i + 1)) ik tb fd pl lt fs sc g tri H.size _ e7) (cwV 1 hts gL_law_X7_told rfl rfl rfl (by decide +kernel) ⟨Nat.le_of_ble_eq_true rfl, Nat.le_of_ble_eq_true rfl⟩) hE 38 rfl rfl rfl rfl hl.1 rfl (Nat.le_of_ble_eq_true rfl) dL_law_372 ⟨Nat.le_of_ble_eq_true rfl, Nat.le_of_ble_eq_true rfl⟩ hP (hD.fst rfl) hS hA [38, 39, 42] [0, 1, 2, 3, 4, 5, 6, 7, 8, 9, 10, 11, 12, 13, 14, 15, 16, 17, 18, 19, 20, 21, 22, 23, 24, 25, 26, 27, 28, 29, 30, 31, 32, 33, 34, 35, 36, 37, 40, 41, 43, 44, 45, 46] [0, 1, 2, 3, 4, 5, 6, 7, 8, 9, 10, 11, 12, 13, 14, 15, 16, 17, 18, 19, 20, 21, 22, 23, 24, 25, 26, 27, 28, 29, 30, 31, 32, 33, 34, 35, 36, 37, 44, 45, 38, 39, 46, 40, 41, 42, 43] rfl rfl (by decide +kernel) (by decide +kernel) rfl (by decide +kernel) (W1 := wd cI cJ aX aM f k h nmn nms nsn nss nen nes nbk nbs np ne nM nwr nwp kmn kms ksn kss ken kes kbk kbs kp ke kM kwr kwp tmn tms tsn tss ten tes tbk tbs tp te tM twr twp tx len nx cn cs so le it hi g kg wg tri1 tb1 ty fd pl lt fs sc so2 sz it2 ik) rfl (fun H locs hP hS => W.eq (g2 := F0 m 375 ls [.int r, .int r]) rfl ?_)
  refine lv_icmp_eq (tgt := 1390) hx hb dL_law_375 (by decide) (fun _ => ?_) (fun q => absurd rfl q)
  exact kk _ _ ⟨h, nmn, nms, nsn, nss, nen, nes, nbk, nbs, np, ne, nM, nwr, nwp, kmn, kms, ksn, kss, ken, kes, kbk, kbs, kp, ke, kM, kwr, kwp, tmn, tms, tsn, tss, ten, tes, tbk, tbs, tp, te, tM, twr, twp, tx, len, nx, cn, cs, so, le, it, hi, g, kg, wg, tri1, tb1, ty, fd, pl, lt, fs, sc, so2, sz, it2, ik, RH, RO1, RS, RK, RR, RT, hP⟩ hS
set_option maxHeartbeats 8000000 in
set_option maxRecDepth 100000 in
theorem lc_markOf {p : Program} {l : Launch} {e : Env} {s : State} {m : MethodId} {below : List Frame} {meth : Method} {c : Code} {dC : Nat → ClassId} {dI : Nat → Nat → Nat} {cI cJ : ClassId} {b L : Nat} {xs : Nat → Int32} {aX aM aS : Nat} {f k : Nat → Nat} (C : LC p l e s m meth c dC dI cI cJ b L xs aX aM aS f k) {i : Nat} (hi6 : i + 6 ≤ L) {H : Heap} {locs : List Loc} {ls : Array Slot} (J : INV dC dI cI cJ aX aM f k H) (hS : va_S (fun q : Nat => s.heap.size ≤ q) s.heap H locs) (hl : lv_has ls 4 [(0, .ref b), (1, .ref aX), (2, .ref aM), (3, .int (nI i))]) (kk : ∀ (H : Heap) (locs : List Loc), INV dC dI cI cJ aX aM f k H → va_S (fun q : Nat => s.heap.size ≤ q) s.heap H locs → W p l e room_1 s m #[Value.ref b] below meth c H locs 600000 7302250 (lw_Z below #[Value.ref b] s) (F0 m 1390 ls [])) : W p l e room_1 s m #[Value.ref b] below meth c H locs 600000 7302250 (lw_Z below #[Value.ref b] s) (F0 m 380 ls []) := by
  obtain ⟨hx, hb, hml, hown, hts, hX, hbl, hL, hE, hD, hZ, hXS⟩ := C
  obtain ⟨h, nmn, nms, nsn, nss, nen, nes, nbk, nbs, np, ne, nM, nwr, nwp, kmn, kms, ksn, kss, ken, kes, kbk, kbs, kp, ke, kM, kwr, kwp, tmn, tms, tsn, tss, ten, tes, tbk, tbs, tp, te, tM, twr, twp, tx, len, nx, cn, cs, so, le, it, hi, g, kg, wg, tri, tb, ty, fd, pl, lt, fs, sc, so2, sz, it2, ik, RH, RO, RS, RK, RR, RT, hP⟩ := J
  have hA : ∀ q : Nat, s.heap.size ≤ q → (fun q : Nat => s.heap.size ≤ q) q := fun _ h => h
  have hbA : ¬ (fun q : Nat => s.heap.size ≤ q) b := Nat.not_le.mpr hbl
  obtain ⟨r, e6, e7⟩ := pm_markOf RS (xs (i + 1)) (xs (i + 2))
  refine lv_aload_n hx hb dL_law_380 rfl (lv_at hl 1 rfl) ?_
  refine lv_aload_n hx hb dL_law_381 rfl (lv_at hl 0 rfl) ?_
  refine lv_iload_n hx hb dL_law_382 rfl (lv_at hl 3 rfl) ?_
  refine lv_iconst (v := (1 : Int32)) hx hb dL_law_383 (by decide) ?_
  refine lv_iadd hx hb dL_law_384 ?_
  refine va_sld hx hb hX hbl hbA hS (sx_i (x := (1 : Int32)) rfl (j := 1) (by omega) hL) dL_law_385 ?_
  refine tp_ (y := xs (i + 1)) (congrArg xs (sx_c (x := (1 : Int32)) rfl (j := 1) (by omega) hL).symm) ?_
  refine lv_aload_n hx hb dL_law_386 rfl (lv_at hl 0 rfl) ?_
  refine lv_iload_n hx hb dL_law_387 rfl (lv_at hl 3 rfl) ?_
  refine lv_iconst (v := (2 : Int32)) hx hb dL_law_388 (by decide) ?_
  refine lv_iadd hx hb dL_law_389 ?_
  refine va_sld hx hb hX hbl hbA hS (sx_i (x := (2 : Int32)) rfl (j := 2) (by omega) hL) dL_law_390 ?_
  refine tp_ (y := xs (i + 2)) (congrArg xs (sx_c (x := (2 : Int32)) rfl (j := 2) (by omega) hL).symm) ?_
  refine ro_V ⟨hx, hb, hml, hown, hts⟩ (k_X6_markOf l dC dI cI cJ aX (f 0) (f 2) (f 11) (f 20) (f 29) (f 33) (f 3) (f 5) (f 7) (f 9) (f 4) (xs (i + 1)) (xs (i + 2)) hi np ne nM nwr nwp nms nmn _ e6) (cwV 2 hts gL_law_X6_markOf rfl rfl rfl (by decide +kernel) ⟨Nat.le_of_ble_eq_true rfl, Nat.le_of_ble_eq_true rfl⟩) hE hP 0 rfl rfl rfl (hP.sub [0, 3, 4, 5] rfl) rfl hl.1 rfl (Nat.le_of_ble_eq_true rfl) dL_law_391 ⟨Nat.le_of_ble_eq_true rfl, Nat.le_of_ble_eq_true rfl⟩ ?_
  refine lv_aload_n hx hb dL_law_394 rfl (lv_at hl 2 rfl) ?_
  refine lv_aload_n hx hb dL_law_395 rfl (lv_at hl 0 rfl) ?_
  refine lv_iload_n hx hb dL_law_396 rfl (lv_at hl 3 rfl) ?_
  refine lv_iconst (v := (1 : Int32)) hx hb dL_law_397 (by decide) ?_
  refine lv_iadd hx hb dL_law_398 ?_
  refine va_sld hx hb hX hbl hbA hS (sx_i (x := (1 : Int32)) rfl (j := 1) (by omega) hL) dL_law_399 ?_
  refine tp_ (y := xs (i + 1)) (congrArg xs (sx_c (x := (1 : Int32)) rfl (j := 1) (by omega) hL).symm) ?_
  refine lv_aload_n hx hb dL_law_400 rfl (lv_at hl 0 rfl) ?_
  refine lv_iload_n hx hb dL_law_401 rfl (lv_at hl 3 rfl) ?_
  refine lv_iconst (v := (2 : Int32)) hx hb dL_law_402 (by decide) ?_
  refine lv_iadd hx hb dL_law_403 ?_
  refine va_sld hx hb hX hbl hbA hS (sx_i (x := (2 : Int32)) rfl (j := 2) (by omega) hL) dL_law_404 ?_
  refine tp_ (y := xs (i + 2)) (congrArg xs (sx_c (x := (2 : Int32)) rfl (j := 2) (by omega) hL).symm) ?_
  refine ro_V ⟨hx, hb, hml, hown, hts⟩ (k_X7_markOf l dC dI cI cJ aM (k 0) (k 1) (k 2) (k 3) (k 4) (k 5) (k 6) (k 7) (xs (i + 1)) (xs (i + 2)) ik tb fd pl lt fs sc g _ e7) (cwV 2 hts gL_law_X7_markOf rfl rfl rfl (by decide +kernel) ⟨Nat.le_of_ble_eq_true rfl, Nat.le_of_ble_eq_true rfl⟩) hE hP 38 rfl rfl rfl (hP.sub [38, 39] rfl) rfl hl.1 rfl (Nat.le_of_ble_eq_true rfl) dL_law_405 ⟨Nat.le_of_ble_eq_true rfl, Nat.le_of_ble_eq_true rfl⟩ ?_
  refine lv_icmp_eq (tgt := 1390) hx hb dL_law_408 (by decide) (fun _ => ?_) (fun q => absurd rfl q)
  exact kk _ _ ⟨h, nmn, nms, nsn, nss, nen, nes, nbk, nbs, np, ne, nM, nwr, nwp, kmn, kms, ksn, kss, ken, kes, kbk, kbs, kp, ke, kM, kwr, kwp, tmn, tms, tsn, tss, ten, tes, tbk, tbs, tp, te, tM, twr, twp, tx, len, nx, cn, cs, so, le, it, hi, g, kg, wg, tri, tb, ty, fd, pl, lt, fs, sc, so2, sz, it2, ik, RH, RO, RS, RK, RR, RT, hP⟩ hS
set_option maxHeartbeats 8000000 in
set_option maxRecDepth 100000 in
theorem lc_at {p : Program} {l : Launch} {e : Env} {s : State} {m : MethodId} {below : List Frame} {meth : Method} {c : Code} {dC : Nat → ClassId} {dI : Nat → Nat → Nat} {cI cJ : ClassId} {b L : Nat} {xs : Nat → Int32} {aX aM aS : Nat} {f k : Nat → Nat} (C : LC p l e s m meth c dC dI cI cJ b L xs aX aM aS f k) {i : Nat} (hi6 : i + 6 ≤ L) {H : Heap} {locs : List Loc} {ls : Array Slot} (J : INV dC dI cI cJ aX aM f k H) (hS : va_S (fun q : Nat => s.heap.size ≤ q) s.heap H locs) (hl : lv_has ls 4 [(0, .ref b), (1, .ref aX), (2, .ref aM), (3, .int (nI i))]) (kk : ∀ (H : Heap) (locs : List Loc), INV dC dI cI cJ aX aM f k H → va_S (fun q : Nat => s.heap.size ≤ q) s.heap H locs → W p l e room_1 s m #[Value.ref b] below meth c H locs 600000 7302250 (lw_Z below #[Value.ref b] s) (F0 m 1390 ls [])) : W p l e room_1 s m #[Value.ref b] below meth c H locs 600000 7302250 (lw_Z below #[Value.ref b] s) (F0 m 413 ls []) := by
  obtain ⟨hx, hb, hml, hown, hts, hX, hbl, hL, hE, hD, hZ, hXS⟩ := C
  obtain ⟨h, nmn, nms, nsn, nss, nen, nes, nbk, nbs, np, ne, nM, nwr, nwp, kmn, kms, ksn, kss, ken, kes, kbk, kbs, kp, ke, kM, kwr, kwp, tmn, tms, tsn, tss, ten, tes, tbk, tbs, tp, te, tM, twr, twp, tx, len, nx, cn, cs, so, le, it, hi, g, kg, wg, tri, tb, ty, fd, pl, lt, fs, sc, so2, sz, it2, ik, RH, RO, RS, RK, RR, RT, hP⟩ := J
  have hA : ∀ q : Nat, s.heap.size ≤ q → (fun q : Nat => s.heap.size ≤ q) q := fun _ h => h
  have hbA : ¬ (fun q : Nat => s.heap.size ≤ q) b := Nat.not_le.mpr hbl
  obtain ⟨r, ⟨tri1, tb1⟩, RO1, e6, e7⟩ := pm_at (t := (tri, tb)) RS RH RO (xs (i + 1)) (xs (i + 2))
  refine lv_aload_n hx hb dL_law_413 rfl (lv_at hl 1 rfl) ?_
  refine lv_aload_n hx hb dL_law_414 rfl (lv_at hl 0 rfl) ?_
  refine lv_iload_n hx hb dL_law_415 rfl (lv_at hl 3 rfl) ?_
  refine lv_iconst (v := (1 : Int32)) hx hb dL_law_416 (by decide) ?_
  refine lv_iadd hx hb dL_law_417 ?_
  refine va_sld hx hb hX hbl hbA hS (sx_i (x := (1 : Int32)) rfl (j := 1) (by omega) hL) dL_law_418 ?_
  refine tp_ (y := xs (i + 1)) (congrArg xs (sx_c (x := (1 : Int32)) rfl (j := 1) (by omega) hL).symm) ?_
  refine lv_aload_n hx hb dL_law_419 rfl (lv_at hl 0 rfl) ?_
  refine lv_iload_n hx hb dL_law_420 rfl (lv_at hl 3 rfl) ?_
  refine lv_iconst (v := (2 : Int32)) hx hb dL_law_421 (by decide) ?_
  refine lv_iadd hx hb dL_law_422 ?_
  refine va_sld hx hb hX hbl hbA hS (sx_i (x := (2 : Int32)) rfl (j := 2) (by omega) hL) dL_law_423 ?_
  refine tp_ (y := xs (i + 2)) (congrArg xs (sx_c (x := (2 : Int32)) rfl (j := 2) (by omega) hL).symm) ?_
  refine ro_V ⟨hx, hb, hml, hown, hts⟩ (k_X6_at l dC dI cI cJ aX (f 0) (f 2) (f 11) (f 20) (f 29) (f 33) (f 1) (f 3) (f 5) (f 7) (f 9) (xs (i + 1)) (xs (i + 2)) hi h np ne nM nwr nwp _ e6) (cwV 2 hts gL_law_X6_at rfl rfl rfl (by decide +kernel) ⟨Nat.le_of_ble_eq_true rfl, Nat.le_of_ble_eq_true rfl⟩) hE hP 0 rfl rfl rfl (hP.sub [0, 1, 2, 3] rfl) rfl hl.1 rfl (Nat.le_of_ble_eq_true rfl) dL_law_424 ⟨Nat.le_of_ble_eq_true rfl, Nat.le_of_ble_eq_true rfl⟩ ?_
  refine lv_aload_n hx hb dL_law_427 rfl (lv_at hl 2 rfl) ?_
  refine lv_aload_n hx hb dL_law_428 rfl (lv_at hl 0 rfl) ?_
  refine lv_iload_n hx hb dL_law_429 rfl (lv_at hl 3 rfl) ?_
  refine lv_iconst (v := (1 : Int32)) hx hb dL_law_430 (by decide) ?_
  refine lv_iadd hx hb dL_law_431 ?_
  refine va_sld hx hb hX hbl hbA hS (sx_i (x := (1 : Int32)) rfl (j := 1) (by omega) hL) dL_law_432 ?_
  refine tp_ (y := xs (i + 1)) (congrArg xs (sx_c (x := (1 : Int32)) rfl (j := 1) (by omega) hL).symm) ?_
  refine lv_aload_n hx hb dL_law_433 rfl (lv_at hl 0 rfl) ?_
  refine lv_iload_n hx hb dL_law_434 rfl (lv_at hl 3 rfl) ?_
  refine lv_iconst (v := (2 : Int32)) hx hb dL_law_435 (by decide) ?_
  refine lv_iadd hx hb dL_law_436 ?_
  refine va_sld hx hb hX hbl hbA hS (sx_i (x := (2 : Int32)) rfl (j := 2) (by omega) hL) dL_law_437 ?_
  refine tp_ (y := xs (i + 2)) (congrArg xs (sx_c (x := (2 : Int32)) rfl (j := 2) (by omega) hL).symm) ?_
  refine mu_V ⟨hx, hb, hml, hown, hts⟩ (k_X7_at l dC dI cI cJ aM (k 0) (k 1) (k 2) (k 3) (k 4) (k 5) (k 6) (k 7) (xs (i + 1)) (xs (i + 2)) ik tb fd pl lt fs sc g tri H.size _ e7) (cwV 2 hts gL_law_X7_at rfl rfl rfl (by decide +kernel) ⟨Nat.le_of_ble_eq_true rfl, Nat.le_of_ble_eq_true rfl⟩) hE 38 rfl rfl rfl rfl hl.1 rfl (Nat.le_of_ble_eq_true rfl) dL_law_438 ⟨Nat.le_of_ble_eq_true rfl, Nat.le_of_ble_eq_true rfl⟩ hP (hD.fst rfl) hS hA [38, 39, 42] [0, 1, 2, 3, 4, 5, 6, 7, 8, 9, 10, 11, 12, 13, 14, 15, 16, 17, 18, 19, 20, 21, 22, 23, 24, 25, 26, 27, 28, 29, 30, 31, 32, 33, 34, 35, 36, 37, 40, 41, 43, 44, 45, 46] [0, 1, 2, 3, 4, 5, 6, 7, 8, 9, 10, 11, 12, 13, 14, 15, 16, 17, 18, 19, 20, 21, 22, 23, 24, 25, 26, 27, 28, 29, 30, 31, 32, 33, 34, 35, 36, 37, 44, 45, 38, 39, 46, 40, 41, 42, 43] rfl rfl (by decide +kernel) (by decide +kernel) rfl (by decide +kernel) (W1 := wd cI cJ aX aM f k h nmn nms nsn nss nen nes nbk nbs np ne nM nwr nwp kmn kms ksn kss ken kes kbk kbs kp ke kM kwr kwp tmn tms tsn tss ten tes tbk tbs tp te tM twr twp tx len nx cn cs so le it hi g kg wg tri1 tb1 ty fd pl lt fs sc so2 sz it2 ik) rfl (fun H locs hP hS => W.eq (g2 := F0 m 441 ls [.int r, .int r]) rfl ?_)
  refine lv_icmp_eq (tgt := 1390) hx hb dL_law_441 (by decide) (fun _ => ?_) (fun q => absurd rfl q)
  exact kk _ _ ⟨h, nmn, nms, nsn, nss, nen, nes, nbk, nbs, np, ne, nM, nwr, nwp, kmn, kms, ksn, kss, ken, kes, kbk, kbs, kp, ke, kM, kwr, kwp, tmn, tms, tsn, tss, ten, tes, tbk, tbs, tp, te, tM, twr, twp, tx, len, nx, cn, cs, so, le, it, hi, g, kg, wg, tri1, tb1, ty, fd, pl, lt, fs, sc, so2, sz, it2, ik, RH, RO1, RS, RK, RR, RT, hP⟩ hS
