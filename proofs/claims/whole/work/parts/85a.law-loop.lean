/-! the law's loop -/
set_option maxHeartbeats 8000000 in
set_option maxRecDepth 100000 in
theorem law_loop {p : Program} {l : Launch} {e : Env} {s : State} {m : MethodId} {below : List Frame} {meth : Method} {c : Code} {dC : Nat → ClassId} {dI : Nat → Nat → Nat} {cI cJ : ClassId} {b L : Nat} {xs : Nat → Int32} {aX aM aS : Nat} {f k : Nat → Nat} (C : LC p l e s m meth c dC dI cI cJ b L xs aX aM aS f k) (hr : meth.sig.returnType = ret) (hlocks : meth.locks = false) : ∀ (n i : Nat), i ≤ L → L < i + n → INVK dC dI cI cJ aX aM f k (fun H => ∀ (locs : List Loc) (ls : Array Slot), va_S (fun q : Nat => s.heap.size ≤ q) s.heap H locs → lv_has ls 4 [(0, .ref b), (1, .ref aX), (2, .ref aM), (3, .int (nI i))] → W p l e room_1 s m #[Value.ref b] below meth c H locs 600000 7302250 (lw_Z below #[Value.ref b] s) (F0 m 18 ls [])) := by
  have C1 := C
  obtain ⟨hx, hb, hml, hown, hts, hX, hbl, hL, hE, hD, hZ, hXS⟩ := C1
  have hA : ∀ q : Nat, s.heap.size ≤ q → (fun q : Nat => s.heap.size ≤ q) q := fun _ h => h
  have hbA : ¬ (fun q : Nat => s.heap.size ≤ q) b := Nat.not_le.mpr hbl
  intro n
  induction n with
  | zero =>
    intro i h1 h2
    omega
  | succ n ih =>
    intro i hi9 hin
    intro h nmn nms nsn nss nen nes nbk nbs np ne nM nwr nwp kmn kms ksn kss ken kes kbk kbs kp ke kM kwr kwp tmn tms tsn tss ten tes tbk tbs tp te tM twr twp tx len nx cn cs so le it hi g kg wg tri tb ty fd pl lt fs sc so2 sz it2 ik H RH RO RS RK RR RT hP locs ls hS hl
    refine lv_iload_n hx hb dL_law_18 rfl (lv_at hl 3 rfl) ?_
    refine lv_aload_n hx hb dL_law_19 rfl (lv_at hl 0 rfl) ?_
    refine va_slen hx hb hX hbl hbA hS dL_law_20 ?_
    refine lv_bipush (v := (6 : Int32)) hx hb dL_law_21 (by decide) ?_
    refine lv_isub hx hb dL_law_23 ?_
    have eL : (Int32.ofNat L - 6).toInt = (L : Int) - 6 := by
      show (nI L - nI 6).toInt = _
      rw [Int32.toInt_sub, nI_toInt (by omega), nI_toInt (by omega)]
      exact Int.bmod_eq_of_le (by omega) (by omega)
    refine lv_icmp_gt (tgt := 1396) hx hb dL_law_24 (by decide) (fun c1 => ?_) (fun c1 => ?_)
    · refine lv_iconst (v := (1 : Int32)) hx hb dL_law_1396 (by decide) ?_
      refine va_forget (fun q hq => hS.2.2 q hq) ?_
      exact lw_ret hx hb hr hlocks dL_law_1397
    · have hi6 : i + 6 ≤ L := by
        rw [Int32.lt_iff_toInt_lt, eL, nI_toInt (by omega)] at c1
        omega
      refine lv_aload_n hx hb dL_law_27 rfl (lv_at hl 0 rfl) ?_
      refine lv_iload_n hx hb dL_law_28 rfl (lv_at hl 3 rfl) ?_
      refine va_sld hx hb hX hbl hbA hS (vp_in_nI (by omega) (by omega)) dL_law_29 ?_
      refine lv_bipush (v := (63 : Int32)) hx hb dL_law_30 (by decide) ?_
      refine lv_iand hx hb dL_law_32 ?_
      refine lv_topi (fun x ex => ?_)
      have kk : INVK dC dI cI cJ aX aM f k (fun H => ∀ (locs : List Loc), va_S (fun q : Nat => s.heap.size ≤ q) s.heap H locs → W p l e room_1 s m #[Value.ref b] below meth c H locs 600000 7302250 (lw_Z below #[Value.ref b] s) (F0 m 1390 ls [])) := by
        intro h9 nmn9 nms9 nsn9 nss9 nen9 nes9 nbk9 nbs9 np9 ne9 nM9 nwr9 nwp9 kmn9 kms9 ksn9 kss9 ken9 kes9 kbk9 kbs9 kp9 ke9 kM9 kwr9 kwp9 tmn9 tms9 tsn9 tss9 ten9 tes9 tbk9 tbs9 tp9 te9 tM9 twr9 twp9 tx9 len9 nx9 cn9 cs9 so9 le9 it9 hi9 g9 kg9 wg9 tri9 tb9 ty9 fd9 pl9 lt9 fs9 sc9 so29 sz9 it29 ik9 H9 RH9 RO9 RS9 RK9 RR9 RT9 hP9 locs9 hS9
        refine lv_iinc (v := nI (i + 6)) (lv' := [(3, .int (nI (i + 6))), (0, .ref b), (1, .ref aX), (2, .ref aM)]) hx hb dL_law_1390 hl (k := 3) rfl (nI_add i 6) (by decide) rfl (fun ls hl => ?_)
        refine lv_goto (tgt := 18) hx hb dL_law_1393 (by decide) ?_
        exact ih (i + 6) hi6 (by omega) h9 nmn9 nms9 nsn9 nss9 nen9 nes9 nbk9 nbs9 np9 ne9 nM9 nwr9 nwp9 kmn9 kms9 ksn9 kss9 ken9 kes9 kbk9 kbs9 kp9 ke9 kM9 kwr9 kwp9 tmn9 tms9 tsn9 tss9 ten9 tes9 tbk9 tbs9 tp9 te9 tM9 twr9 twp9 tx9 len9 nx9 cn9 cs9 so9 le9 it9 hi9 g9 kg9 wg9 tri9 tb9 ty9 fd9 pl9 lt9 fs9 sc9 so29 sz9 it29 ik9 H9 RH9 RO9 RS9 RK9 RR9 RT9 hP9 locs9 ls hS9 (lv_sub hl [1, 2, 3, 0] rfl)
      by_cases hout : x.toInt < 0 ∨ 36 < x.toInt
      · refine lv_tableOut (tgt := 1390) hx hb dL_law_33 hout (by decide) ?_
        exact kk h nmn nms nsn nss nen nes nbk nbs np ne nM nwr nwp kmn kms ksn kss ken kes kbk kbs kp ke kM kwr kwp tmn tms tsn tss ten tes tbk tbs tp te tM twr twp tx len nx cn cs so le it hi g kg wg tri tb ty fd pl lt fs sc so2 sz it2 ik H RH RO RS RK RR RT hP locs hS
      · have hj : x.toInt = 0 ∨ x.toInt = 1 ∨ x.toInt = 2 ∨ x.toInt = 3 ∨ x.toInt = 4 ∨ x.toInt = 5 ∨ x.toInt = 6 ∨ x.toInt = 7 ∨ x.toInt = 8 ∨ x.toInt = 9 ∨ x.toInt = 10 ∨ x.toInt = 11 ∨ x.toInt = 12 ∨ x.toInt = 13 ∨ x.toInt = 14 ∨ x.toInt = 15 ∨ x.toInt = 16 ∨ x.toInt = 17 ∨ x.toInt = 18 ∨ x.toInt = 19 ∨ x.toInt = 20 ∨ x.toInt = 21 ∨ x.toInt = 22 ∨ x.toInt = 23 ∨ x.toInt = 24 ∨ x.toInt = 25 ∨ x.toInt = 26 ∨ x.toInt = 27 ∨ x.toInt = 28 ∨ x.toInt = 29 ∨ x.toInt = 30 ∨ x.toInt = 31 ∨ x.toInt = 32 ∨ x.toInt = 33 ∨ x.toInt = 34 ∨ x.toInt = 35 ∨ x.toInt = 36 := by omega
        rcases hj with hj | hj | hj | hj | hj | hj | hj | hj | hj | hj | hj | hj | hj | hj | hj | hj | hj | hj | hj | hj | hj | hj | hj | hj | hj | hj | hj | hj | hj | hj | hj | hj | hj | hj | hj | hj | hj
        · refine lv_tableIn (off := 163) (tgt := 196) hx hb dL_law_33 (by omega) (by omega) (by rw [hj]; rfl) (by decide) ?_
          exact lc_prime C hi6 RH RO RS RK RR RT hP hS hl kk
        · refine lv_tableIn (off := 186) (tgt := 219) hx hb dL_law_33 (by omega) (by omega) (by rw [hj]; rfl) (by decide) ?_
          exact lc_power C hi6 RH RO RS RK RR RT hP hS hl kk
        · refine lv_tableIn (off := 209) (tgt := 242) hx hb dL_law_33 (by omega) (by omega) (by rw [hj]; rfl) (by decide) ?_
          exact lc_mark C hi6 RH RO RS RK RR RT hP hS hl kk
        · refine lv_tableIn (off := 242) (tgt := 275) hx hb dL_law_33 (by omega) (by omega) (by rw [hj]; rfl) (by decide) ?_
          exact lc_clear C hi6 RH RO RS RK RR RT hP hS hl kk
        · refine lv_tableIn (off := 255) (tgt := 288) hx hb dL_law_33 (by omega) (by omega) (by rw [hj]; rfl) (by decide) ?_
          exact lc_window C hi6 RH RO RS RK RR RT hP hS hl kk
        · refine lv_tableIn (off := 288) (tgt := 321) hx hb dL_law_33 (by omega) (by omega) (by rw [hj]; rfl) (by decide) ?_
          exact lc_feed C hi6 RH RO RS RK RR RT hP hS hl kk
        · refine lv_tableIn (off := 311) (tgt := 344) hx hb dL_law_33 (by omega) (by omega) (by rw [hj]; rfl) (by decide) ?_
          exact lc_read C hi6 RH RO RS RK RR RT hP hS hl kk
        · refine lv_tableIn (off := 324) (tgt := 357) hx hb dL_law_33 (by omega) (by omega) (by rw [hj]; rfl) (by decide) ?_
          exact lc_told C hi6 RH RO RS RK RR RT hP hS hl kk
        · refine lv_tableIn (off := 347) (tgt := 380) hx hb dL_law_33 (by omega) (by omega) (by rw [hj]; rfl) (by decide) ?_
          exact lc_markOf C hi6 RH RO RS RK RR RT hP hS hl kk
        · refine lv_tableIn (off := 380) (tgt := 413) hx hb dL_law_33 (by omega) (by omega) (by rw [hj]; rfl) (by decide) ?_
          exact lc_at C hi6 RH RO RS RK RR RT hP hS hl kk
        · refine lv_tableIn (off := 413) (tgt := 446) hx hb dL_law_33 (by omega) (by omega) (by rw [hj]; rfl) (by decide) ?_
          exact lc_rule C hi6 RH RO RS RK RR RT hP hS hl kk
        · refine lv_tableIn (off := 456) (tgt := 489) hx hb dL_law_33 (by omega) (by omega) (by rw [hj]; rfl) (by decide) ?_
          exact lc_marked C hi6 RH RO RS RK RR RT hP hS hl kk
        · refine lv_tableIn (off := 489) (tgt := 522) hx hb dL_law_33 (by omega) (by omega) (by rw [hj]; rfl) (by decide) ?_
          exact lc_digit C hi6 RH RO RS RK RR RT hP hS hl kk
        · refine lv_tableIn (off := 522) (tgt := 555) hx hb dL_law_33 (by omega) (by omega) (by rw [hj]; rfl) (by decide) ?_
          exact lc_pure C hi6 RH RO RS RK RR RT hP hS hl kk
        · refine lv_tableIn (off := 555) (tgt := 588) hx hb dL_law_33 (by omega) (by omega) (by rw [hj]; rfl) (by decide) ?_
          exact lc_counted C hi6 RH RO RS RK RR RT hP hS hl kk
        · refine lv_tableIn (off := 588) (tgt := 621) hx hb dL_law_33 (by omega) (by omega) (by rw [hj]; rfl) (by decide) ?_
          exact lc_row C hi6 RH RO RS RK RR RT hP hS hl kk
        · refine lv_tableIn (off := 621) (tgt := 654) hx hb dL_law_33 (by omega) (by omega) (by rw [hj]; rfl) (by decide) ?_
          exact lc_kind C hi6 RH RO RS RK RR RT hP hS hl kk
        · refine lv_tableIn (off := 654) (tgt := 687) hx hb dL_law_33 (by omega) (by omega) (by rw [hj]; rfl) (by decide) ?_
          exact lc_upTo C hi6 RH RO RS RK RR RT hP hS hl kk
        · refine lv_tableIn (off := 687) (tgt := 720) hx hb dL_law_33 (by omega) (by omega) (by rw [hj]; rfl) (by decide) ?_
          exact lc_picture C hi6 RH RO RS RK RR RT hP hS hl kk
        · refine lv_tableIn (off := 710) (tgt := 743) hx hb dL_law_33 (by omega) (by omega) (by rw [hj]; rfl) (by decide) ?_
          exact lc_like C hi6 RH RO RS RK RR RT hP hS hl kk
        · refine lv_tableIn (off := 773) (tgt := 806) hx hb dL_law_33 (by omega) (by omega) (by rw [hj]; rfl) (by decide) ?_
          exact lc_scaled C hi6 RH RO RS RK RR RT hP hS hl kk
        · refine lv_tableIn (off := 806) (tgt := 839) hx hb dL_law_33 (by omega) (by omega) (by rw [hj]; rfl) (by decide) ?_
          exact lc_see C hi6 RH RO RS RK RR RT hP hS hl kk
        · refine lv_tableIn (off := 849) (tgt := 882) hx hb dL_law_33 (by omega) (by omega) (by rw [hj]; rfl) (by decide) ?_
          exact lc_fits C hi6 RH RO RS RK RR RT hP hS hl kk
        · refine lv_tableIn (off := 862) (tgt := 895) hx hb dL_law_33 (by omega) (by omega) (by rw [hj]; rfl) (by decide) ?_
          exact lc_odds C hi6 RH RO RS RK RR RT hP hS hl kk
        · refine lv_tableIn (off := 916) (tgt := 949) hx hb dL_law_33 (by omega) (by omega) (by rw [hj]; rfl) (by decide) ?_
          exact lc_mean C hi6 RH RO RS RK RR RT hP hS hl kk
        · refine lv_tableIn (off := 950) (tgt := 983) hx hb dL_law_33 (by omega) (by omega) (by rw [hj]; rfl) (by decide) ?_
          exact lc_event C hi6 RH RO RS RK RR RT hP hS hl kk
        · refine lv_tableIn (off := 983) (tgt := 1016) hx hb dL_law_33 (by omega) (by omega) (by rw [hj]; rfl) (by decide) ?_
          exact lc_after C hi6 RH RO RS RK RR RT hP hS hl kk
        · refine lv_tableIn (off := 1006) (tgt := 1039) hx hb dL_law_33 (by omega) (by omega) (by rw [hj]; rfl) (by decide) ?_
          exact lc_book C hi6 RH RO RS RK RR RT hP hS hl kk
        · refine lv_tableIn (off := 1039) (tgt := 1072) hx hb dL_law_33 (by omega) (by omega) (by rw [hj]; rfl) (by decide) ?_
          exact lc_looked C hi6 RH RO RS RK RR RT hP hS hl kk
        · refine lv_tableIn (off := 1052) (tgt := 1085) hx hb dL_law_33 (by omega) (by omega) (by rw [hj]; rfl) (by decide) ?_
          exact lc_judge C hi6 RH RO RS RK RR RT hP hS hl kk
        · refine lv_tableIn (off := 1095) (tgt := 1128) hx hb dL_law_33 (by omega) (by omega) (by rw [hj]; rfl) (by decide) ?_
          exact lc_image C hi6 RH RO RS RK RR RT hP hS hl kk
        · refine lv_tableIn (off := 1108) (tgt := 1141) hx hb dL_law_33 (by omega) (by omega) (by rw [hj]; rfl) (by decide) ?_
          exact lc_undo C hi6 RH RO RS RK RR RT hP hS hl kk
        · refine lv_tableIn (off := 1121) (tgt := 1154) hx hb dL_law_33 (by omega) (by omega) (by rw [hj]; rfl) (by decide) ?_
          exact lc_count C hi6 RH RO RS RK RR RT hP hS hl kk
        · refine lv_tableIn (off := 1144) (tgt := 1177) hx hb dL_law_33 (by omega) (by omega) (by rw [hj]; rfl) (by decide) ?_
          exact lc_tape C hi6 RH RO RS RK RR RT hP hS hl kk
        · refine lv_tableIn (off := 1187) (tgt := 1220) hx hb dL_law_33 (by omega) (by omega) (by rw [hj]; rfl) (by decide) ?_
          exact lc_item C hi6 RH RO RS RK RR RT hP hS hl kk
        · refine lv_tableIn (off := 1260) (tgt := 1293) hx hb dL_law_33 (by omega) (by omega) (by rw [hj]; rfl) (by decide) ?_
          exact lc_peek C hi6 RH RO RS RK RR RT hP hS hl kk
        · refine lv_tableIn (off := 1294) (tgt := 1327) hx hb dL_law_33 (by omega) (by omega) (by rw [hj]; rfl) (by decide) ?_
          exact lc_shift C hi6 RH RO RS RK RR RT hP hS hl kk
