/-! the law's blocks -/
set_option maxHeartbeats 8000000 in
set_option maxRecDepth 100000 in
theorem blk_21 {p : Program} {l : Launch} {e : Env} {s : State} {m : MethodId} {below : List Frame} {meth : Method} {c : Code} {dC : Nat → ClassId} {dI : Nat → Nat → Nat} {cI : ClassId} {cJ : ClassId} {b : Nat} {L : Nat} {xs : Nat → Int32} (C : LC p s m meth c dC dI cI cJ b L xs) (hr : wp_21 (WW_46 p l e s m below meth c dC dI cI cJ b) L xs) : WW_21 p l e s m below meth c dC dI cI cJ b := by
  obtain ⟨hx, hb, hrt, hml, hown, hts, hX, hbl, hlocks, hE⟩ := C
  have hK := hE.1
  have hA : ∀ q : Nat, s.heap.size ≤ q → (fun q : Nat => s.heap.size ≤ q) q := fun _ h => h
  have hbA : ¬ (fun q : Nat => s.heap.size ≤ q) b := Nat.not_le.mpr hbl
  intro aO fO aX fX a_text H locs ls hD hP hS hl
  unfold wp_21 at hr
  refine lv_iconst (v := (0 : Int32)) hx hb dL_law_21 (by decide) ?_
  refine lv_istore (lv' := [(4, .int (0 : Int32)), (0, .ref b), (1, .ref aO), (2, .ref aX), (3, .ref a_text)]) hx hb dL_law_22 hl (by decide) rfl (fun ls hl => ?_)
  refine lv_iconst (v := (0 : Int32)) hx hb dL_law_24 (by decide) ?_
  refine lv_istore (lv' := [(5, .int (0 : Int32)), (4, .int (0 : Int32)), (0, .ref b), (1, .ref aO), (2, .ref aX), (3, .ref a_text)]) hx hb dL_law_25 hl (by decide) rfl (fun ls hl => ?_)
  refine lv_iconst (v := (1 : Int32)) hx hb dL_law_27 (by decide) ?_
  refine lv_aload_n hx hb dL_law_28 rfl (lv_at hl 2 rfl) ?_
  refine lv_bipush (v := (100 : Int32)) hx hb dL_law_29 (by decide) ?_
  obtain ⟨u_1, hu_1, hr⟩ := pbd_e hr
  refine ro_SXc ⟨hx, hb, hml, hown, hts⟩ (k_L_cell l dC dI cI cJ b (100 : Int32) L xs u_1 hu_1) (va_cwS 2 hts gL_law_L_cell rfl rfl rfl (by decide +kernel) ⟨(Nat.le_of_ble_eq_true rfl), (Nat.le_of_ble_eq_true rfl)⟩) hE (va_X_at hX hbl hbA hS) rfl hl.1 rfl (Nat.le_of_ble_eq_true rfl) dL_law_31 ⟨(Nat.le_of_ble_eq_true rfl), (Nat.le_of_ble_eq_true rfl)⟩ ?_
  refine lv_bipush (v := (31 : Int32)) hx hb dL_law_34 (by decide) ?_
  refine lv_iand hx hb dL_law_36 ?_
  refine lv_bipush (v := (11 : Int32)) hx hb dL_law_37 (by decide) ?_
  obtain ⟨d_2, ed_2, hd_2, hr⟩ := pmd_e hr
  refine lv_irem hx hb dL_law_39 hd_2 ?_
  refine tp_ ed_2 ?_
  refine lv_iadd hx hb dL_law_40 ?_
  refine lv_istore (lv' := [(6, .int ((1 : Int32) + d_2)), (5, .int (0 : Int32)), (4, .int (0 : Int32)), (0, .ref b), (1, .ref aO), (2, .ref aX), (3, .ref a_text)]) hx hb dL_law_41 hl (by decide) rfl (fun ls hl => ?_)
  refine lv_iconst (v := (0 : Int32)) hx hb dL_law_43 (by decide) ?_
  refine lv_istore (lv' := [(7, .int (0 : Int32)), (6, .int ((1 : Int32) + d_2)), (5, .int (0 : Int32)), (4, .int (0 : Int32)), (0, .ref b), (1, .ref aO), (2, .ref aX), (3, .ref a_text)]) hx hb dL_law_44 hl (by decide) rfl (fun ls hl => ?_)
  exact hr aO fO aX fX a_text H locs ls (hD.fst rfl) hP hS (lv_sub hl [4, 5, 6, 7, 3, 2, 1, 0] rfl)
set_option maxHeartbeats 8000000 in
set_option maxRecDepth 100000 in
theorem blk_46 {p : Program} {l : Launch} {e : Env} {s : State} {m : MethodId} {below : List Frame} {meth : Method} {c : Code} {dC : Nat → ClassId} {dI : Nat → Nat → Nat} {cI : ClassId} {cJ : ClassId} {b : Nat} {L : Nat} {xs : Nat → Int32} (C : LC p s m meth c dC dI cI cJ b L xs) (x_now_marks_numbers : Nat → Int32) (x_now_marks_size : Int32) (x_now_p : Int32) (x_now_e : Int32) (x_now_modulus : Int32) (x_now_windowRow : Int32) (x_now_windowPlace : Int32) (text : Nat → Int32) (v4 : Int32) (v5 : Int32) (v6 : Int32) (v7 : Int32) (hr : wp_46 (WW_98 p l e s m below meth c dC dI cI cJ b) (WW_435 p l e s m below meth c dC dI cI cJ b) L xs x_now_marks_numbers x_now_marks_size x_now_p x_now_e x_now_modulus x_now_windowRow x_now_windowPlace text v4 v5 v6 v7) : WW_46 p l e s m below meth c dC dI cI cJ b x_now_marks_numbers x_now_marks_size x_now_p x_now_e x_now_modulus x_now_windowRow x_now_windowPlace text v4 v5 v6 v7 := by
  obtain ⟨hx, hb, hrt, hml, hown, hts, hX, hbl, hlocks, hE⟩ := C
  have hK := hE.1
  have hA : ∀ q : Nat, s.heap.size ≤ q → (fun q : Nat => s.heap.size ≤ q) q := fun _ h => h
  have hbA : ¬ (fun q : Nat => s.heap.size ≤ q) b := Nat.not_le.mpr hbl
  intro aO fO aX fX a_text H locs ls hD hP hS hl
  unfold wp_46 at hr
  refine lv_iload hx hb dL_law_46 (lv_at hl 7 rfl) ?_
  refine lv_iload hx hb dL_law_48 (lv_at hl 6 rfl) ?_
  refine lv_icmp_ge (tgt := 435) hx hb dL_law_50 (by decide) (fun c_1 => ?_) (fun c_1 => ?_)
  · have hr := pite_p hr c_1
    exact hr aO fO aX fX a_text H locs ls (hD.fst rfl) hP hS (lv_sub hl [0, 1, 2, 3, 4, 5] rfl)
  · have hr := pite_n hr c_1
    refine lv_aload_n hx hb dL_law_53 rfl (lv_at hl 0 rfl) ?_
    refine lv_bipush (v := (101 : Int32)) hx hb dL_law_54 (by decide) ?_
    refine lv_iload hx hb dL_law_56 (lv_at hl 7 rfl) ?_
    refine lv_iadd hx hb dL_law_58 ?_
    obtain ⟨u_2, hu_2, hr⟩ := pbd_e hr
    refine ro_SXc ⟨hx, hb, hml, hown, hts⟩ (k_L_cell l dC dI cI cJ b ((101 : Int32) + v7) L xs u_2 hu_2) (va_cwS 2 hts gL_law_L_cell rfl rfl rfl (by decide +kernel) ⟨(Nat.le_of_ble_eq_true rfl), (Nat.le_of_ble_eq_true rfl)⟩) hE (va_X_at hX hbl hbA hS) rfl hl.1 rfl (Nat.le_of_ble_eq_true rfl) dL_law_59 ⟨(Nat.le_of_ble_eq_true rfl), (Nat.le_of_ble_eq_true rfl)⟩ ?_
    refine lv_istore (lv' := [(8, .int u_2), (0, .ref b), (1, .ref aO), (2, .ref aX), (3, .ref a_text), (4, .int v4), (5, .int v5), (6, .int v6), (7, .int v7)]) hx hb dL_law_62 hl (by decide) rfl (fun ls hl => ?_)
    refine lv_iload hx hb dL_law_64 (lv_at hl 0 rfl) ?_
    refine lv_iconst (v := (4 : Int32)) hx hb dL_law_66 (by decide) ?_
    refine lv_ishr hx hb dL_law_67 ?_
    refine lv_bipush (v := (15 : Int32)) hx hb dL_law_68 (by decide) ?_
    refine lv_iand hx hb dL_law_70 ?_
    refine lv_istore (lv' := [(9, .int ((u_2 >>> ((4 : Int32) &&& 31)) &&& (15 : Int32))), (8, .int u_2), (0, .ref b), (1, .ref aO), (2, .ref aX), (3, .ref a_text), (4, .int v4), (5, .int v5), (6, .int v6), (7, .int v7)]) hx hb dL_law_71 hl (by decide) rfl (fun ls hl => ?_)
    refine lv_iload hx hb dL_law_73 (lv_at hl 1 rfl) ?_
    refine lv_bipush (v := (8 : Int32)) hx hb dL_law_75 (by decide) ?_
    refine lv_ishr hx hb dL_law_77 ?_
    refine lv_sipush (v := (255 : Int32)) hx hb dL_law_78 (by decide) ?_
    refine lv_iand hx hb dL_law_81 ?_
    refine lv_istore (lv' := [(10, .int ((u_2 >>> ((8 : Int32) &&& 31)) &&& (255 : Int32))), (9, .int ((u_2 >>> ((4 : Int32) &&& 31)) &&& (15 : Int32))), (8, .int u_2), (0, .ref b), (1, .ref aO), (2, .ref aX), (3, .ref a_text), (4, .int v4), (5, .int v5), (6, .int v6), (7, .int v7)]) hx hb dL_law_82 hl (by decide) rfl (fun ls hl => ?_)
    refine lv_iload hx hb dL_law_84 (lv_at hl 10 rfl) ?_
    refine lv_if_le (tgt := 98) hx hb dL_law_86 (by decide) (fun c_3 => ?_) (fun c_3 => ?_)
    · have hr := pite_p hr c_3
      exact hr aO fO aX fX a_text H locs ls (hD.fst rfl) hP hS (lv_sub hl [3, 4, 5, 6, 7, 8, 9, 10, 2, 1, 0] rfl)
    · have hr := pite_n hr c_3
      refine lv_aload_n hx hb dL_law_89 rfl (lv_at hl 6 rfl) ?_
      refine lv_iload hx hb dL_law_90 (lv_at hl 7 rfl) ?_
      refine lv_bipush (v := (59 : Int32)) hx hb dL_law_92 (by decide) ?_
      obtain ⟨w_4, ew_4, hw_4, hr⟩ := pwr_e hr
      refine va_iast hx hb hK hP (hD.fst rfl) hS 76 0 rfl rfl hw_4 dL_law_94 (fun H locs hP _ hS => ?_)
      rw [← ew_4] at hP
      have hP : va_P (dC, dI) vwCl (wo cI cJ aO fO (0 : Int32) h6 (2 : Int32) (1 : Int32) (2 : Int32) (0 : Int32) (0 : Int32) (0 : Int32) (fun _ => (0 : Int32)) (0 : Int32) (fun _ => (0 : Int32)) (0 : Int32) (fun _ => (0 : Int32)) (0 : Int32) (fun _ => (0 : Int32)) (2 : Int32) (1 : Int32) (2 : Int32) (0 : Int32) (0 : Int32) (0 : Int32) (fun _ => (0 : Int32)) (0 : Int32) (fun _ => (0 : Int32)) (0 : Int32) (fun _ => (0 : Int32)) (0 : Int32) (fun _ => (0 : Int32)) (2 : Int32) (1 : Int32) (2 : Int32) (0 : Int32) (0 : Int32) (0 : Int32) (fun _ => (0 : Int32)) (0 : Int32) (fun _ => (0 : Int32)) (0 : Int32) (fun _ => (0 : Int32)) (0 : Int32) (fun _ => (0 : Int32)) (0 : Int32) (0 : Int32) (fun _ => (0 : Int32)) (0 : Int32) (fun _ => (0 : Int32)) so6 (fun _ => (0 : Int32)) (fun _ => (0 : Int64)) (wo cI cJ aX fX (0 : Int32) h6 x_now_p x_now_e x_now_modulus x_now_windowRow x_now_windowPlace x_now_marks_size x_now_marks_numbers (0 : Int32) (fun _ => (0 : Int32)) (0 : Int32) (fun _ => (0 : Int32)) (0 : Int32) (fun _ => (0 : Int32)) (2 : Int32) (1 : Int32) (2 : Int32) (0 : Int32) (0 : Int32) (0 : Int32) (fun _ => (0 : Int32)) (0 : Int32) (fun _ => (0 : Int32)) (0 : Int32) (fun _ => (0 : Int32)) (0 : Int32) (fun _ => (0 : Int32)) (2 : Int32) (1 : Int32) (2 : Int32) (0 : Int32) (0 : Int32) (0 : Int32) (fun _ => (0 : Int32)) (0 : Int32) (fun _ => (0 : Int32)) (0 : Int32) (fun _ => (0 : Int32)) (0 : Int32) (fun _ => (0 : Int32)) (0 : Int32) (0 : Int32) (fun _ => (0 : Int32)) (0 : Int32) (fun _ => (0 : Int32)) so6 (fun _ => (0 : Int32)) (fun _ => (0 : Int64)) [(a_text, .inl (cI, 120, .inl w_4))])) H := hP
      refine lv_iinc (v := (v4 + (1 : Int32))) (lv' := [(4, .int (v4 + (1 : Int32))), (10, .int ((u_2 >>> ((8 : Int32) &&& 31)) &&& (255 : Int32))), (9, .int ((u_2 >>> ((4 : Int32) &&& 31)) &&& (15 : Int32))), (8, .int u_2), (0, .ref b), (1, .ref aO), (2, .ref aX), (3, .ref a_text), (5, .int v5), (6, .int v6), (7, .int v7)]) hx hb dL_law_95 hl (k := 7) rfl (congrArg (fun z => v4 + z) (by decide)) (by decide) rfl (fun ls hl => ?_)
      exact hr aO fO aX fX a_text H locs ls (hD.fst rfl) hP hS (lv_sub hl [4, 5, 6, 7, 0, 8, 9, 10, 3, 2, 1] rfl)
set_option maxHeartbeats 8000000 in
set_option maxRecDepth 100000 in
theorem blk_98 {p : Program} {l : Launch} {e : Env} {s : State} {m : MethodId} {below : List Frame} {meth : Method} {c : Code} {dC : Nat → ClassId} {dI : Nat → Nat → Nat} {cI : ClassId} {cJ : ClassId} {b : Nat} {L : Nat} {xs : Nat → Int32} (C : LC p s m meth c dC dI cI cJ b L xs) (x_now_marks_numbers : Nat → Int32) (x_now_marks_size : Int32) (x_now_p : Int32) (x_now_e : Int32) (x_now_modulus : Int32) (x_now_windowRow : Int32) (x_now_windowPlace : Int32) (text : Nat → Int32) (v4 : Int32) (v5 : Int32) (v6 : Int32) (v7 : Int32) (v8 : Int32) (v9 : Int32) (v10 : Int32) (hr : wp_98 (WW_46 p l e s m below meth c dC dI cI cJ b) L xs x_now_marks_numbers x_now_marks_size x_now_p x_now_e x_now_modulus x_now_windowRow x_now_windowPlace text v4 v5 v6 v7 v8 v9 v10) : WW_98 p l e s m below meth c dC dI cI cJ b x_now_marks_numbers x_now_marks_size x_now_p x_now_e x_now_modulus x_now_windowRow x_now_windowPlace text v4 v5 v6 v7 v8 v9 v10 := by
  obtain ⟨hx, hb, hrt, hml, hown, hts, hX, hbl, hlocks, hE⟩ := C
  have hK := hE.1
  have hA : ∀ q : Nat, s.heap.size ≤ q → (fun q : Nat => s.heap.size ≤ q) q := fun _ h => h
  have hbA : ¬ (fun q : Nat => s.heap.size ≤ q) b := Nat.not_le.mpr hbl
  intro aO fO aX fX a_text H locs ls hD hP hS hl
  unfold wp_98 at hr
  refine lv_iload hx hb dL_law_98 (lv_at hl 8 rfl) ?_
  refine lv_bipush (v := (15 : Int32)) hx hb dL_law_100 (by decide) ?_
  refine lv_iand hx hb dL_law_102 ?_
  refine lv_bipush (v := (6 : Int32)) hx hb dL_law_103 (by decide) ?_
  obtain ⟨d_1, ed_1, hd_1, hr⟩ := pmd_e hr
  refine lv_irem hx hb dL_law_105 hd_1 ?_
  refine tp_ ed_1 ?_
  by_cases c_2 : d_1 = (0 : Int32)
  · have hr := pite_p hr c_2
    refine W.eq (g2 := F0 m 106 ls (.int (0 : Int32) :: [])) (congrArg (fun z => F0 m 106 ls (.int z :: [])) c_2) ?_
    refine lv_tableIn (tgt := 136) hx hb dL_law_106 (by decide) (by decide) (by first | rfl | decide) (by decide) ?_
    refine lv_aload_n hx hb dL_law_136 rfl (lv_at hl 3 rfl) ?_
    refine lv_iload hx hb dL_law_137 (lv_at hl 4 rfl) ?_
    refine lv_bipush (v := (112 : Int32)) hx hb dL_law_139 (by decide) ?_
    obtain ⟨w_3, ew_3, hw_3, hr⟩ := pwr_e hr
    refine va_iast hx hb hK hP (hD.fst rfl) hS 76 0 rfl rfl hw_3 dL_law_141 (fun H locs hP _ hS => ?_)
    rw [← ew_3] at hP
    have hP : va_P (dC, dI) vwCl (wo cI cJ aO fO (0 : Int32) h6 (2 : Int32) (1 : Int32) (2 : Int32) (0 : Int32) (0 : Int32) (0 : Int32) (fun _ => (0 : Int32)) (0 : Int32) (fun _ => (0 : Int32)) (0 : Int32) (fun _ => (0 : Int32)) (0 : Int32) (fun _ => (0 : Int32)) (2 : Int32) (1 : Int32) (2 : Int32) (0 : Int32) (0 : Int32) (0 : Int32) (fun _ => (0 : Int32)) (0 : Int32) (fun _ => (0 : Int32)) (0 : Int32) (fun _ => (0 : Int32)) (0 : Int32) (fun _ => (0 : Int32)) (2 : Int32) (1 : Int32) (2 : Int32) (0 : Int32) (0 : Int32) (0 : Int32) (fun _ => (0 : Int32)) (0 : Int32) (fun _ => (0 : Int32)) (0 : Int32) (fun _ => (0 : Int32)) (0 : Int32) (fun _ => (0 : Int32)) (0 : Int32) (0 : Int32) (fun _ => (0 : Int32)) (0 : Int32) (fun _ => (0 : Int32)) so6 (fun _ => (0 : Int32)) (fun _ => (0 : Int64)) (wo cI cJ aX fX (0 : Int32) h6 x_now_p x_now_e x_now_modulus x_now_windowRow x_now_windowPlace x_now_marks_size x_now_marks_numbers (0 : Int32) (fun _ => (0 : Int32)) (0 : Int32) (fun _ => (0 : Int32)) (0 : Int32) (fun _ => (0 : Int32)) (2 : Int32) (1 : Int32) (2 : Int32) (0 : Int32) (0 : Int32) (0 : Int32) (fun _ => (0 : Int32)) (0 : Int32) (fun _ => (0 : Int32)) (0 : Int32) (fun _ => (0 : Int32)) (0 : Int32) (fun _ => (0 : Int32)) (2 : Int32) (1 : Int32) (2 : Int32) (0 : Int32) (0 : Int32) (0 : Int32) (fun _ => (0 : Int32)) (0 : Int32) (fun _ => (0 : Int32)) (0 : Int32) (fun _ => (0 : Int32)) (0 : Int32) (fun _ => (0 : Int32)) (0 : Int32) (0 : Int32) (fun _ => (0 : Int32)) (0 : Int32) (fun _ => (0 : Int32)) so6 (fun _ => (0 : Int32)) (fun _ => (0 : Int64)) [(a_text, .inl (cI, 120, .inl w_3))])) H := hP
    refine lv_aload_n hx hb dL_law_142 rfl (lv_at hl 3 rfl) ?_
    refine lv_iload hx hb dL_law_143 (lv_at hl 4 rfl) ?_
    refine lv_iconst (v := (1 : Int32)) hx hb dL_law_145 (by decide) ?_
    refine lv_iadd hx hb dL_law_146 ?_
    refine lv_iload hx hb dL_law_147 (lv_at hl 9 rfl) ?_
    refine lv_bipush (v := (10 : Int32)) hx hb dL_law_149 (by decide) ?_
    obtain ⟨d_4, ed_4, hd_4, hr⟩ := pmd_e hr
    refine lv_irem hx hb dL_law_151 hd_4 ?_
    refine tp_ ed_4 ?_
    obtain ⟨u_5, hu_5, hr⟩ := pbd_e hr
    refine mu_XS ⟨hx, hb, hml, hown, hts⟩ (k_L_puts l dC dI cI cJ a_text (v4 + (1 : Int32)) d_4 120 w_3 H.size u_5 hu_5) (va_cwS 3 hts gL_law_L_puts rfl rfl rfl (by decide +kernel) ⟨(Nat.le_of_ble_eq_true rfl), (Nat.le_of_ble_eq_true rfl)⟩) hE rfl hl.1 rfl (Nat.le_of_ble_eq_true rfl) dL_law_152 ⟨(Nat.le_of_ble_eq_true rfl), (Nat.le_of_ble_eq_true rfl)⟩ hP (hD.fst rfl) hS hA [false, false, false, false, false, false, false, false, false, false, false, false, false, false, false, false, false, false, false, false, false, false, false, false, false, false, false, false, false, false, false, false, false, false, false, false, false, false, false, false, false, false, false, false, false, false, false, false, false, false, false, false, false, false, false, false, false, false, false, false, false, false, false, false, false, false, false, false, false, false, false, false, false, false, false, false, true] rfl (W1 := (wo cI cJ aO fO (0 : Int32) h6 (2 : Int32) (1 : Int32) (2 : Int32) (0 : Int32) (0 : Int32) (0 : Int32) (fun _ => (0 : Int32)) (0 : Int32) (fun _ => (0 : Int32)) (0 : Int32) (fun _ => (0 : Int32)) (0 : Int32) (fun _ => (0 : Int32)) (2 : Int32) (1 : Int32) (2 : Int32) (0 : Int32) (0 : Int32) (0 : Int32) (fun _ => (0 : Int32)) (0 : Int32) (fun _ => (0 : Int32)) (0 : Int32) (fun _ => (0 : Int32)) (0 : Int32) (fun _ => (0 : Int32)) (2 : Int32) (1 : Int32) (2 : Int32) (0 : Int32) (0 : Int32) (0 : Int32) (fun _ => (0 : Int32)) (0 : Int32) (fun _ => (0 : Int32)) (0 : Int32) (fun _ => (0 : Int32)) (0 : Int32) (fun _ => (0 : Int32)) (0 : Int32) (0 : Int32) (fun _ => (0 : Int32)) (0 : Int32) (fun _ => (0 : Int32)) so6 (fun _ => (0 : Int32)) (fun _ => (0 : Int64)) (wo cI cJ aX fX (0 : Int32) h6 x_now_p x_now_e x_now_modulus x_now_windowRow x_now_windowPlace x_now_marks_size x_now_marks_numbers (0 : Int32) (fun _ => (0 : Int32)) (0 : Int32) (fun _ => (0 : Int32)) (0 : Int32) (fun _ => (0 : Int32)) (2 : Int32) (1 : Int32) (2 : Int32) (0 : Int32) (0 : Int32) (0 : Int32) (fun _ => (0 : Int32)) (0 : Int32) (fun _ => (0 : Int32)) (0 : Int32) (fun _ => (0 : Int32)) (0 : Int32) (fun _ => (0 : Int32)) (2 : Int32) (1 : Int32) (2 : Int32) (0 : Int32) (0 : Int32) (0 : Int32) (fun _ => (0 : Int32)) (0 : Int32) (fun _ => (0 : Int32)) (0 : Int32) (fun _ => (0 : Int32)) (0 : Int32) (fun _ => (0 : Int32)) (0 : Int32) (0 : Int32) (fun _ => (0 : Int32)) (0 : Int32) (fun _ => (0 : Int32)) so6 (fun _ => (0 : Int32)) (fun _ => (0 : Int64)) [(a_text, .inl (cI, 120, .inl u_5.2))]))) rfl (fun H locs hP hS => W.eq (g2 := F0 m 155 ls [.int u_5.1]) rfl ?_)
    refine lv_istore (lv' := [(4, .int u_5.1), (0, .ref b), (1, .ref aO), (2, .ref aX), (3, .ref a_text), (5, .int v5), (6, .int v6), (7, .int v7), (8, .int v8), (9, .int v9), (10, .int v10)]) hx hb dL_law_155 hl (by decide) rfl (fun ls hl => ?_)
    refine lv_iload hx hb dL_law_157 (lv_at hl 5 rfl) ?_
    refine lv_aload_n hx hb dL_law_159 rfl (lv_at hl 3 rfl) ?_
    refine lv_iload hx hb dL_law_160 (lv_at hl 9 rfl) ?_
    refine lv_bipush (v := (10 : Int32)) hx hb dL_law_162 (by decide) ?_
    obtain ⟨d_6, ed_6, hd_6, hr⟩ := pmd_e hr
    refine lv_irem hx hb dL_law_164 hd_6 ?_
    refine tp_ ed_6 ?_
    obtain ⟨u_7, hu_7, hr⟩ := pbd_e hr
    refine mu_X ⟨hx, hb, hml, hown, hts⟩ (k_X6_prime l dC dI cI cJ aX (fX 0) (fX 2) (fX 11) (fX 20) (fX 29) (fX 33) (fX 3) (fX 5) (fX 7) (fX 9) d_6 (0 : Int32) x_now_p x_now_e x_now_modulus x_now_windowRow x_now_windowPlace H.size u_7 hu_7) (cwV 1 hts gL_law_X6_prime rfl rfl rfl (by decide +kernel) ⟨(Nat.le_of_ble_eq_true rfl), (Nat.le_of_ble_eq_true rfl)⟩) hE 38 rfl rfl rfl rfl hl.1 rfl (Nat.le_of_ble_eq_true rfl) dL_law_165 ⟨(Nat.le_of_ble_eq_true rfl), (Nat.le_of_ble_eq_true rfl)⟩ hP (hD.fst rfl) hS hA [false, false, false, false, false, false, false, false, false, false, false, false, false, false, false, false, false, false, false, false, false, false, false, false, false, false, false, false, false, false, false, false, false, false, false, false, false, false, true, false, false, true] rfl (W1 := (wo cI cJ aO fO (0 : Int32) h6 (2 : Int32) (1 : Int32) (2 : Int32) (0 : Int32) (0 : Int32) (0 : Int32) (fun _ => (0 : Int32)) (0 : Int32) (fun _ => (0 : Int32)) (0 : Int32) (fun _ => (0 : Int32)) (0 : Int32) (fun _ => (0 : Int32)) (2 : Int32) (1 : Int32) (2 : Int32) (0 : Int32) (0 : Int32) (0 : Int32) (fun _ => (0 : Int32)) (0 : Int32) (fun _ => (0 : Int32)) (0 : Int32) (fun _ => (0 : Int32)) (0 : Int32) (fun _ => (0 : Int32)) (2 : Int32) (1 : Int32) (2 : Int32) (0 : Int32) (0 : Int32) (0 : Int32) (fun _ => (0 : Int32)) (0 : Int32) (fun _ => (0 : Int32)) (0 : Int32) (fun _ => (0 : Int32)) (0 : Int32) (fun _ => (0 : Int32)) (0 : Int32) (0 : Int32) (fun _ => (0 : Int32)) (0 : Int32) (fun _ => (0 : Int32)) so6 (fun _ => (0 : Int32)) (fun _ => (0 : Int64)) (wo cI cJ aX fX (0 : Int32) h6 u_7.2.1 u_7.2.2.1 u_7.2.2.2 x_now_windowRow x_now_windowPlace x_now_marks_size x_now_marks_numbers (0 : Int32) (fun _ => (0 : Int32)) (0 : Int32) (fun _ => (0 : Int32)) (0 : Int32) (fun _ => (0 : Int32)) (2 : Int32) (1 : Int32) (2 : Int32) (0 : Int32) (0 : Int32) (0 : Int32) (fun _ => (0 : Int32)) (0 : Int32) (fun _ => (0 : Int32)) (0 : Int32) (fun _ => (0 : Int32)) (0 : Int32) (fun _ => (0 : Int32)) (2 : Int32) (1 : Int32) (2 : Int32) (0 : Int32) (0 : Int32) (0 : Int32) (fun _ => (0 : Int32)) (0 : Int32) (fun _ => (0 : Int32)) (0 : Int32) (fun _ => (0 : Int32)) (0 : Int32) (fun _ => (0 : Int32)) (0 : Int32) (0 : Int32) (fun _ => (0 : Int32)) (0 : Int32) (fun _ => (0 : Int32)) so6 (fun _ => (0 : Int32)) (fun _ => (0 : Int64)) [(a_text, .inl (cI, 120, .inl u_5.2))]))) rfl (fun H locs hP hS => W.eq (g2 := F0 m 168 ls [.int u_7.1, .int v5]) rfl ?_)
    have hJ_8 : ∀ (y_9 : Int32) (ey_9 : y_9 = (if (¬ (u_7.1 < 0)) then (1 : Int32) else (0 : Int32))) (ls : Array Slot), lv_has ls 21 [(0, .ref b), (1, .ref aO), (2, .ref aX), (3, .ref a_text), (4, .int u_5.1), (6, .int v6), (7, .int v7)] → W p l e room_1 s m #[Value.ref b] below meth c H locs 77 10066 (lw_Z below #[Value.ref b] s) (F0 m 176 ls [.int y_9, .int v5]) := by
      intro y_9 ey_9 ls hl
      subst ey_9
      refine lv_iadd hx hb dL_law_176 ?_
      refine lv_istore (lv' := [(5, .int (v5 + (if (¬ (u_7.1 < 0)) then (1 : Int32) else (0 : Int32)))), (0, .ref b), (1, .ref aO), (2, .ref aX), (3, .ref a_text), (4, .int u_5.1), (6, .int v6), (7, .int v7)]) hx hb dL_law_177 hl (by decide) rfl (fun ls hl => ?_)
      refine lv_goto (tgt := 429) hx hb dL_law_179 (by decide) ?_
      refine lv_iinc (v := (v7 + (1 : Int32))) (lv' := [(7, .int (v7 + (1 : Int32))), (5, .int (v5 + (if (¬ (u_7.1 < 0)) then (1 : Int32) else (0 : Int32)))), (0, .ref b), (1, .ref aO), (2, .ref aX), (3, .ref a_text), (4, .int u_5.1), (6, .int v6)]) hx hb dL_law_429 hl (k := 7) rfl (congrArg (fun z => v7 + z) (by decide)) (by decide) rfl (fun ls hl => ?_)
      refine lv_goto (tgt := 46) hx hb dL_law_432 (by decide) ?_
      exact hr aO fO aX fX a_text H locs ls (hD.fst rfl) hP hS (lv_sub hl [2, 3, 4, 5, 6, 1, 7, 0] rfl)
    refine lv_if_lt (tgt := 175) hx hb dL_law_168 (by decide) (fun c_10 => ?_) (fun c_10 => ?_)
    · refine lv_iconst (v := (0 : Int32)) hx hb dL_law_175 (by decide) ?_
      exact hJ_8 _ (if_neg (fun h => h c_10)).symm ls (lv_sub hl [1, 2, 3, 4, 0, 6, 7] rfl)
    · refine lv_iconst (v := (1 : Int32)) hx hb dL_law_171 (by decide) ?_
      refine lv_goto (tgt := 176) hx hb dL_law_172 (by decide) ?_
      exact hJ_8 _ (if_pos c_10).symm ls (lv_sub hl [1, 2, 3, 4, 0, 6, 7] rfl)
  have hr := pite_n hr c_2
  by_cases c_11 : d_1 = (1 : Int32)
  · have hr := pite_p hr c_11
    refine W.eq (g2 := F0 m 106 ls (.int (1 : Int32) :: [])) (congrArg (fun z => F0 m 106 ls (.int z :: [])) c_11) ?_
    refine lv_tableIn (tgt := 182) hx hb dL_law_106 (by decide) (by decide) (by first | rfl | decide) (by decide) ?_
    refine lv_aload_n hx hb dL_law_182 rfl (lv_at hl 3 rfl) ?_
    refine lv_iload hx hb dL_law_183 (lv_at hl 4 rfl) ?_
    refine lv_bipush (v := (101 : Int32)) hx hb dL_law_185 (by decide) ?_
    obtain ⟨w_12, ew_12, hw_12, hr⟩ := pwr_e hr
    refine va_iast hx hb hK hP (hD.fst rfl) hS 76 0 rfl rfl hw_12 dL_law_187 (fun H locs hP _ hS => ?_)
    rw [← ew_12] at hP
    have hP : va_P (dC, dI) vwCl (wo cI cJ aO fO (0 : Int32) h6 (2 : Int32) (1 : Int32) (2 : Int32) (0 : Int32) (0 : Int32) (0 : Int32) (fun _ => (0 : Int32)) (0 : Int32) (fun _ => (0 : Int32)) (0 : Int32) (fun _ => (0 : Int32)) (0 : Int32) (fun _ => (0 : Int32)) (2 : Int32) (1 : Int32) (2 : Int32) (0 : Int32) (0 : Int32) (0 : Int32) (fun _ => (0 : Int32)) (0 : Int32) (fun _ => (0 : Int32)) (0 : Int32) (fun _ => (0 : Int32)) (0 : Int32) (fun _ => (0 : Int32)) (2 : Int32) (1 : Int32) (2 : Int32) (0 : Int32) (0 : Int32) (0 : Int32) (fun _ => (0 : Int32)) (0 : Int32) (fun _ => (0 : Int32)) (0 : Int32) (fun _ => (0 : Int32)) (0 : Int32) (fun _ => (0 : Int32)) (0 : Int32) (0 : Int32) (fun _ => (0 : Int32)) (0 : Int32) (fun _ => (0 : Int32)) so6 (fun _ => (0 : Int32)) (fun _ => (0 : Int64)) (wo cI cJ aX fX (0 : Int32) h6 x_now_p x_now_e x_now_modulus x_now_windowRow x_now_windowPlace x_now_marks_size x_now_marks_numbers (0 : Int32) (fun _ => (0 : Int32)) (0 : Int32) (fun _ => (0 : Int32)) (0 : Int32) (fun _ => (0 : Int32)) (2 : Int32) (1 : Int32) (2 : Int32) (0 : Int32) (0 : Int32) (0 : Int32) (fun _ => (0 : Int32)) (0 : Int32) (fun _ => (0 : Int32)) (0 : Int32) (fun _ => (0 : Int32)) (0 : Int32) (fun _ => (0 : Int32)) (2 : Int32) (1 : Int32) (2 : Int32) (0 : Int32) (0 : Int32) (0 : Int32) (fun _ => (0 : Int32)) (0 : Int32) (fun _ => (0 : Int32)) (0 : Int32) (fun _ => (0 : Int32)) (0 : Int32) (fun _ => (0 : Int32)) (0 : Int32) (0 : Int32) (fun _ => (0 : Int32)) (0 : Int32) (fun _ => (0 : Int32)) so6 (fun _ => (0 : Int32)) (fun _ => (0 : Int64)) [(a_text, .inl (cI, 120, .inl w_12))])) H := hP
    refine lv_aload_n hx hb dL_law_188 rfl (lv_at hl 3 rfl) ?_
    refine lv_iload hx hb dL_law_189 (lv_at hl 4 rfl) ?_
    refine lv_iconst (v := (1 : Int32)) hx hb dL_law_191 (by decide) ?_
    refine lv_iadd hx hb dL_law_192 ?_
    refine lv_iload hx hb dL_law_193 (lv_at hl 9 rfl) ?_
    refine lv_bipush (v := (7 : Int32)) hx hb dL_law_195 (by decide) ?_
    obtain ⟨d_13, ed_13, hd_13, hr⟩ := pmd_e hr
    refine lv_irem hx hb dL_law_197 hd_13 ?_
    refine tp_ ed_13 ?_
    obtain ⟨u_14, hu_14, hr⟩ := pbd_e hr
    refine mu_XS ⟨hx, hb, hml, hown, hts⟩ (k_L_puts l dC dI cI cJ a_text (v4 + (1 : Int32)) d_13 120 w_12 H.size u_14 hu_14) (va_cwS 3 hts gL_law_L_puts rfl rfl rfl (by decide +kernel) ⟨(Nat.le_of_ble_eq_true rfl), (Nat.le_of_ble_eq_true rfl)⟩) hE rfl hl.1 rfl (Nat.le_of_ble_eq_true rfl) dL_law_198 ⟨(Nat.le_of_ble_eq_true rfl), (Nat.le_of_ble_eq_true rfl)⟩ hP (hD.fst rfl) hS hA [false, false, false, false, false, false, false, false, false, false, false, false, false, false, false, false, false, false, false, false, false, false, false, false, false, false, false, false, false, false, false, false, false, false, false, false, false, false, false, false, false, false, false, false, false, false, false, false, false, false, false, false, false, false, false, false, false, false, false, false, false, false, false, false, false, false, false, false, false, false, false, false, false, false, false, false, true] rfl (W1 := (wo cI cJ aO fO (0 : Int32) h6 (2 : Int32) (1 : Int32) (2 : Int32) (0 : Int32) (0 : Int32) (0 : Int32) (fun _ => (0 : Int32)) (0 : Int32) (fun _ => (0 : Int32)) (0 : Int32) (fun _ => (0 : Int32)) (0 : Int32) (fun _ => (0 : Int32)) (2 : Int32) (1 : Int32) (2 : Int32) (0 : Int32) (0 : Int32) (0 : Int32) (fun _ => (0 : Int32)) (0 : Int32) (fun _ => (0 : Int32)) (0 : Int32) (fun _ => (0 : Int32)) (0 : Int32) (fun _ => (0 : Int32)) (2 : Int32) (1 : Int32) (2 : Int32) (0 : Int32) (0 : Int32) (0 : Int32) (fun _ => (0 : Int32)) (0 : Int32) (fun _ => (0 : Int32)) (0 : Int32) (fun _ => (0 : Int32)) (0 : Int32) (fun _ => (0 : Int32)) (0 : Int32) (0 : Int32) (fun _ => (0 : Int32)) (0 : Int32) (fun _ => (0 : Int32)) so6 (fun _ => (0 : Int32)) (fun _ => (0 : Int64)) (wo cI cJ aX fX (0 : Int32) h6 x_now_p x_now_e x_now_modulus x_now_windowRow x_now_windowPlace x_now_marks_size x_now_marks_numbers (0 : Int32) (fun _ => (0 : Int32)) (0 : Int32) (fun _ => (0 : Int32)) (0 : Int32) (fun _ => (0 : Int32)) (2 : Int32) (1 : Int32) (2 : Int32) (0 : Int32) (0 : Int32) (0 : Int32) (fun _ => (0 : Int32)) (0 : Int32) (fun _ => (0 : Int32)) (0 : Int32) (fun _ => (0 : Int32)) (0 : Int32) (fun _ => (0 : Int32)) (2 : Int32) (1 : Int32) (2 : Int32) (0 : Int32) (0 : Int32) (0 : Int32) (fun _ => (0 : Int32)) (0 : Int32) (fun _ => (0 : Int32)) (0 : Int32) (fun _ => (0 : Int32)) (0 : Int32) (fun _ => (0 : Int32)) (0 : Int32) (0 : Int32) (fun _ => (0 : Int32)) (0 : Int32) (fun _ => (0 : Int32)) so6 (fun _ => (0 : Int32)) (fun _ => (0 : Int64)) [(a_text, .inl (cI, 120, .inl u_14.2))]))) rfl (fun H locs hP hS => W.eq (g2 := F0 m 201 ls [.int u_14.1]) rfl ?_)
    refine lv_istore (lv' := [(4, .int u_14.1), (0, .ref b), (1, .ref aO), (2, .ref aX), (3, .ref a_text), (5, .int v5), (6, .int v6), (7, .int v7), (8, .int v8), (9, .int v9), (10, .int v10)]) hx hb dL_law_201 hl (by decide) rfl (fun ls hl => ?_)
    refine lv_iload hx hb dL_law_203 (lv_at hl 5 rfl) ?_
    refine lv_aload_n hx hb dL_law_205 rfl (lv_at hl 3 rfl) ?_
    refine lv_iload hx hb dL_law_206 (lv_at hl 9 rfl) ?_
    refine lv_bipush (v := (7 : Int32)) hx hb dL_law_208 (by decide) ?_
    obtain ⟨d_15, ed_15, hd_15, hr⟩ := pmd_e hr
    refine lv_irem hx hb dL_law_210 hd_15 ?_
    refine tp_ ed_15 ?_
    obtain ⟨u_16, hu_16, hr⟩ := pbd_e hr
    refine mu_X ⟨hx, hb, hml, hown, hts⟩ (k_X6_power l dC dI cI cJ aX (fX 0) (fX 2) (fX 11) (fX 20) (fX 29) (fX 33) (fX 3) (fX 5) (fX 7) (fX 9) d_15 (0 : Int32) x_now_p x_now_e x_now_modulus x_now_windowRow x_now_windowPlace H.size u_16 hu_16) (cwV 1 hts gL_law_X6_power rfl rfl rfl (by decide +kernel) ⟨(Nat.le_of_ble_eq_true rfl), (Nat.le_of_ble_eq_true rfl)⟩) hE 38 rfl rfl rfl rfl hl.1 rfl (Nat.le_of_ble_eq_true rfl) dL_law_211 ⟨(Nat.le_of_ble_eq_true rfl), (Nat.le_of_ble_eq_true rfl)⟩ hP (hD.fst rfl) hS hA [false, false, false, false, false, false, false, false, false, false, false, false, false, false, false, false, false, false, false, false, false, false, false, false, false, false, false, false, false, false, false, false, false, false, false, false, false, false, true, false, false, true] rfl (W1 := (wo cI cJ aO fO (0 : Int32) h6 (2 : Int32) (1 : Int32) (2 : Int32) (0 : Int32) (0 : Int32) (0 : Int32) (fun _ => (0 : Int32)) (0 : Int32) (fun _ => (0 : Int32)) (0 : Int32) (fun _ => (0 : Int32)) (0 : Int32) (fun _ => (0 : Int32)) (2 : Int32) (1 : Int32) (2 : Int32) (0 : Int32) (0 : Int32) (0 : Int32) (fun _ => (0 : Int32)) (0 : Int32) (fun _ => (0 : Int32)) (0 : Int32) (fun _ => (0 : Int32)) (0 : Int32) (fun _ => (0 : Int32)) (2 : Int32) (1 : Int32) (2 : Int32) (0 : Int32) (0 : Int32) (0 : Int32) (fun _ => (0 : Int32)) (0 : Int32) (fun _ => (0 : Int32)) (0 : Int32) (fun _ => (0 : Int32)) (0 : Int32) (fun _ => (0 : Int32)) (0 : Int32) (0 : Int32) (fun _ => (0 : Int32)) (0 : Int32) (fun _ => (0 : Int32)) so6 (fun _ => (0 : Int32)) (fun _ => (0 : Int64)) (wo cI cJ aX fX (0 : Int32) h6 u_16.2.1 u_16.2.2.1 u_16.2.2.2 x_now_windowRow x_now_windowPlace x_now_marks_size x_now_marks_numbers (0 : Int32) (fun _ => (0 : Int32)) (0 : Int32) (fun _ => (0 : Int32)) (0 : Int32) (fun _ => (0 : Int32)) (2 : Int32) (1 : Int32) (2 : Int32) (0 : Int32) (0 : Int32) (0 : Int32) (fun _ => (0 : Int32)) (0 : Int32) (fun _ => (0 : Int32)) (0 : Int32) (fun _ => (0 : Int32)) (0 : Int32) (fun _ => (0 : Int32)) (2 : Int32) (1 : Int32) (2 : Int32) (0 : Int32) (0 : Int32) (0 : Int32) (fun _ => (0 : Int32)) (0 : Int32) (fun _ => (0 : Int32)) (0 : Int32) (fun _ => (0 : Int32)) (0 : Int32) (fun _ => (0 : Int32)) (0 : Int32) (0 : Int32) (fun _ => (0 : Int32)) (0 : Int32) (fun _ => (0 : Int32)) so6 (fun _ => (0 : Int32)) (fun _ => (0 : Int64)) [(a_text, .inl (cI, 120, .inl u_14.2))]))) rfl (fun H locs hP hS => W.eq (g2 := F0 m 214 ls [.int u_16.1, .int v5]) rfl ?_)
    have hJ_17 : ∀ (y_18 : Int32) (ey_18 : y_18 = (if (¬ (u_16.1 < 0)) then (1 : Int32) else (0 : Int32))) (ls : Array Slot), lv_has ls 21 [(0, .ref b), (1, .ref aO), (2, .ref aX), (3, .ref a_text), (4, .int u_14.1), (6, .int v6), (7, .int v7)] → W p l e room_1 s m #[Value.ref b] below meth c H locs 77 10066 (lw_Z below #[Value.ref b] s) (F0 m 222 ls [.int y_18, .int v5]) := by
      intro y_18 ey_18 ls hl
      subst ey_18
      refine lv_iadd hx hb dL_law_222 ?_
      refine lv_istore (lv' := [(5, .int (v5 + (if (¬ (u_16.1 < 0)) then (1 : Int32) else (0 : Int32)))), (0, .ref b), (1, .ref aO), (2, .ref aX), (3, .ref a_text), (4, .int u_14.1), (6, .int v6), (7, .int v7)]) hx hb dL_law_223 hl (by decide) rfl (fun ls hl => ?_)
      refine lv_goto (tgt := 429) hx hb dL_law_225 (by decide) ?_
      refine lv_iinc (v := (v7 + (1 : Int32))) (lv' := [(7, .int (v7 + (1 : Int32))), (5, .int (v5 + (if (¬ (u_16.1 < 0)) then (1 : Int32) else (0 : Int32)))), (0, .ref b), (1, .ref aO), (2, .ref aX), (3, .ref a_text), (4, .int u_14.1), (6, .int v6)]) hx hb dL_law_429 hl (k := 7) rfl (congrArg (fun z => v7 + z) (by decide)) (by decide) rfl (fun ls hl => ?_)
      refine lv_goto (tgt := 46) hx hb dL_law_432 (by decide) ?_
      exact hr aO fO aX fX a_text H locs ls (hD.fst rfl) hP hS (lv_sub hl [2, 3, 4, 5, 6, 1, 7, 0] rfl)
    refine lv_if_lt (tgt := 221) hx hb dL_law_214 (by decide) (fun c_19 => ?_) (fun c_19 => ?_)
    · refine lv_iconst (v := (0 : Int32)) hx hb dL_law_221 (by decide) ?_
      exact hJ_17 _ (if_neg (fun h => h c_19)).symm ls (lv_sub hl [1, 2, 3, 4, 0, 6, 7] rfl)
    · refine lv_iconst (v := (1 : Int32)) hx hb dL_law_217 (by decide) ?_
      refine lv_goto (tgt := 222) hx hb dL_law_218 (by decide) ?_
      exact hJ_17 _ (if_pos c_19).symm ls (lv_sub hl [1, 2, 3, 4, 0, 6, 7] rfl)
  have hr := pite_n hr c_11
  by_cases c_20 : d_1 = (2 : Int32)
  · have hr := pite_p hr c_20
    refine W.eq (g2 := F0 m 106 ls (.int (2 : Int32) :: [])) (congrArg (fun z => F0 m 106 ls (.int z :: [])) c_20) ?_
    refine lv_tableIn (tgt := 228) hx hb dL_law_106 (by decide) (by decide) (by first | rfl | decide) (by decide) ?_
    refine lv_aload_n hx hb dL_law_228 rfl (lv_at hl 3 rfl) ?_
    refine lv_iload hx hb dL_law_229 (lv_at hl 4 rfl) ?_
    refine lv_bipush (v := (119 : Int32)) hx hb dL_law_231 (by decide) ?_
    obtain ⟨w_21, ew_21, hw_21, hr⟩ := pwr_e hr
    refine va_iast hx hb hK hP (hD.fst rfl) hS 76 0 rfl rfl hw_21 dL_law_233 (fun H locs hP _ hS => ?_)
    rw [← ew_21] at hP
    have hP : va_P (dC, dI) vwCl (wo cI cJ aO fO (0 : Int32) h6 (2 : Int32) (1 : Int32) (2 : Int32) (0 : Int32) (0 : Int32) (0 : Int32) (fun _ => (0 : Int32)) (0 : Int32) (fun _ => (0 : Int32)) (0 : Int32) (fun _ => (0 : Int32)) (0 : Int32) (fun _ => (0 : Int32)) (2 : Int32) (1 : Int32) (2 : Int32) (0 : Int32) (0 : Int32) (0 : Int32) (fun _ => (0 : Int32)) (0 : Int32) (fun _ => (0 : Int32)) (0 : Int32) (fun _ => (0 : Int32)) (0 : Int32) (fun _ => (0 : Int32)) (2 : Int32) (1 : Int32) (2 : Int32) (0 : Int32) (0 : Int32) (0 : Int32) (fun _ => (0 : Int32)) (0 : Int32) (fun _ => (0 : Int32)) (0 : Int32) (fun _ => (0 : Int32)) (0 : Int32) (fun _ => (0 : Int32)) (0 : Int32) (0 : Int32) (fun _ => (0 : Int32)) (0 : Int32) (fun _ => (0 : Int32)) so6 (fun _ => (0 : Int32)) (fun _ => (0 : Int64)) (wo cI cJ aX fX (0 : Int32) h6 x_now_p x_now_e x_now_modulus x_now_windowRow x_now_windowPlace x_now_marks_size x_now_marks_numbers (0 : Int32) (fun _ => (0 : Int32)) (0 : Int32) (fun _ => (0 : Int32)) (0 : Int32) (fun _ => (0 : Int32)) (2 : Int32) (1 : Int32) (2 : Int32) (0 : Int32) (0 : Int32) (0 : Int32) (fun _ => (0 : Int32)) (0 : Int32) (fun _ => (0 : Int32)) (0 : Int32) (fun _ => (0 : Int32)) (0 : Int32) (fun _ => (0 : Int32)) (2 : Int32) (1 : Int32) (2 : Int32) (0 : Int32) (0 : Int32) (0 : Int32) (fun _ => (0 : Int32)) (0 : Int32) (fun _ => (0 : Int32)) (0 : Int32) (fun _ => (0 : Int32)) (0 : Int32) (fun _ => (0 : Int32)) (0 : Int32) (0 : Int32) (fun _ => (0 : Int32)) (0 : Int32) (fun _ => (0 : Int32)) so6 (fun _ => (0 : Int32)) (fun _ => (0 : Int64)) [(a_text, .inl (cI, 120, .inl w_21))])) H := hP
    refine lv_aload_n hx hb dL_law_234 rfl (lv_at hl 3 rfl) ?_
    refine lv_iload hx hb dL_law_235 (lv_at hl 4 rfl) ?_
    refine lv_iconst (v := (1 : Int32)) hx hb dL_law_237 (by decide) ?_
    refine lv_iadd hx hb dL_law_238 ?_
    refine lv_iload hx hb dL_law_239 (lv_at hl 10 rfl) ?_
    refine lv_sipush (v := (140 : Int32)) hx hb dL_law_241 (by decide) ?_
    obtain ⟨d_22, ed_22, hd_22, hr⟩ := pmd_e hr
    refine lv_irem hx hb dL_law_244 hd_22 ?_
    refine tp_ ed_22 ?_
    obtain ⟨u_23, hu_23, hr⟩ := pbd_e hr
    refine mu_XS ⟨hx, hb, hml, hown, hts⟩ (k_L_puts l dC dI cI cJ a_text (v4 + (1 : Int32)) d_22 120 w_21 H.size u_23 hu_23) (va_cwS 3 hts gL_law_L_puts rfl rfl rfl (by decide +kernel) ⟨(Nat.le_of_ble_eq_true rfl), (Nat.le_of_ble_eq_true rfl)⟩) hE rfl hl.1 rfl (Nat.le_of_ble_eq_true rfl) dL_law_245 ⟨(Nat.le_of_ble_eq_true rfl), (Nat.le_of_ble_eq_true rfl)⟩ hP (hD.fst rfl) hS hA [false, false, false, false, false, false, false, false, false, false, false, false, false, false, false, false, false, false, false, false, false, false, false, false, false, false, false, false, false, false, false, false, false, false, false, false, false, false, false, false, false, false, false, false, false, false, false, false, false, false, false, false, false, false, false, false, false, false, false, false, false, false, false, false, false, false, false, false, false, false, false, false, false, false, false, false, true] rfl (W1 := (wo cI cJ aO fO (0 : Int32) h6 (2 : Int32) (1 : Int32) (2 : Int32) (0 : Int32) (0 : Int32) (0 : Int32) (fun _ => (0 : Int32)) (0 : Int32) (fun _ => (0 : Int32)) (0 : Int32) (fun _ => (0 : Int32)) (0 : Int32) (fun _ => (0 : Int32)) (2 : Int32) (1 : Int32) (2 : Int32) (0 : Int32) (0 : Int32) (0 : Int32) (fun _ => (0 : Int32)) (0 : Int32) (fun _ => (0 : Int32)) (0 : Int32) (fun _ => (0 : Int32)) (0 : Int32) (fun _ => (0 : Int32)) (2 : Int32) (1 : Int32) (2 : Int32) (0 : Int32) (0 : Int32) (0 : Int32) (fun _ => (0 : Int32)) (0 : Int32) (fun _ => (0 : Int32)) (0 : Int32) (fun _ => (0 : Int32)) (0 : Int32) (fun _ => (0 : Int32)) (0 : Int32) (0 : Int32) (fun _ => (0 : Int32)) (0 : Int32) (fun _ => (0 : Int32)) so6 (fun _ => (0 : Int32)) (fun _ => (0 : Int64)) (wo cI cJ aX fX (0 : Int32) h6 x_now_p x_now_e x_now_modulus x_now_windowRow x_now_windowPlace x_now_marks_size x_now_marks_numbers (0 : Int32) (fun _ => (0 : Int32)) (0 : Int32) (fun _ => (0 : Int32)) (0 : Int32) (fun _ => (0 : Int32)) (2 : Int32) (1 : Int32) (2 : Int32) (0 : Int32) (0 : Int32) (0 : Int32) (fun _ => (0 : Int32)) (0 : Int32) (fun _ => (0 : Int32)) (0 : Int32) (fun _ => (0 : Int32)) (0 : Int32) (fun _ => (0 : Int32)) (2 : Int32) (1 : Int32) (2 : Int32) (0 : Int32) (0 : Int32) (0 : Int32) (fun _ => (0 : Int32)) (0 : Int32) (fun _ => (0 : Int32)) (0 : Int32) (fun _ => (0 : Int32)) (0 : Int32) (fun _ => (0 : Int32)) (0 : Int32) (0 : Int32) (fun _ => (0 : Int32)) (0 : Int32) (fun _ => (0 : Int32)) so6 (fun _ => (0 : Int32)) (fun _ => (0 : Int64)) [(a_text, .inl (cI, 120, .inl u_23.2))]))) rfl (fun H locs hP hS => W.eq (g2 := F0 m 248 ls [.int u_23.1]) rfl ?_)
    refine lv_istore (lv' := [(4, .int u_23.1), (0, .ref b), (1, .ref aO), (2, .ref aX), (3, .ref a_text), (5, .int v5), (6, .int v6), (7, .int v7), (8, .int v8), (9, .int v9), (10, .int v10)]) hx hb dL_law_248 hl (by decide) rfl (fun ls hl => ?_)
    refine lv_aload_n hx hb dL_law_250 rfl (lv_at hl 4 rfl) ?_
    refine lv_iload hx hb dL_law_251 (lv_at hl 0 rfl) ?_
    refine lv_bipush (v := (44 : Int32)) hx hb dL_law_253 (by decide) ?_
    obtain ⟨w_24, ew_24, hw_24, hr⟩ := pwr_e hr
    refine va_iast hx hb hK hP (hD.fst rfl) hS 76 0 rfl rfl hw_24 dL_law_255 (fun H locs hP _ hS => ?_)
    rw [← ew_24] at hP
    have hP : va_P (dC, dI) vwCl (wo cI cJ aO fO (0 : Int32) h6 (2 : Int32) (1 : Int32) (2 : Int32) (0 : Int32) (0 : Int32) (0 : Int32) (fun _ => (0 : Int32)) (0 : Int32) (fun _ => (0 : Int32)) (0 : Int32) (fun _ => (0 : Int32)) (0 : Int32) (fun _ => (0 : Int32)) (2 : Int32) (1 : Int32) (2 : Int32) (0 : Int32) (0 : Int32) (0 : Int32) (fun _ => (0 : Int32)) (0 : Int32) (fun _ => (0 : Int32)) (0 : Int32) (fun _ => (0 : Int32)) (0 : Int32) (fun _ => (0 : Int32)) (2 : Int32) (1 : Int32) (2 : Int32) (0 : Int32) (0 : Int32) (0 : Int32) (fun _ => (0 : Int32)) (0 : Int32) (fun _ => (0 : Int32)) (0 : Int32) (fun _ => (0 : Int32)) (0 : Int32) (fun _ => (0 : Int32)) (0 : Int32) (0 : Int32) (fun _ => (0 : Int32)) (0 : Int32) (fun _ => (0 : Int32)) so6 (fun _ => (0 : Int32)) (fun _ => (0 : Int64)) (wo cI cJ aX fX (0 : Int32) h6 x_now_p x_now_e x_now_modulus x_now_windowRow x_now_windowPlace x_now_marks_size x_now_marks_numbers (0 : Int32) (fun _ => (0 : Int32)) (0 : Int32) (fun _ => (0 : Int32)) (0 : Int32) (fun _ => (0 : Int32)) (2 : Int32) (1 : Int32) (2 : Int32) (0 : Int32) (0 : Int32) (0 : Int32) (fun _ => (0 : Int32)) (0 : Int32) (fun _ => (0 : Int32)) (0 : Int32) (fun _ => (0 : Int32)) (0 : Int32) (fun _ => (0 : Int32)) (2 : Int32) (1 : Int32) (2 : Int32) (0 : Int32) (0 : Int32) (0 : Int32) (fun _ => (0 : Int32)) (0 : Int32) (fun _ => (0 : Int32)) (0 : Int32) (fun _ => (0 : Int32)) (0 : Int32) (fun _ => (0 : Int32)) (0 : Int32) (0 : Int32) (fun _ => (0 : Int32)) (0 : Int32) (fun _ => (0 : Int32)) so6 (fun _ => (0 : Int32)) (fun _ => (0 : Int64)) [(a_text, .inl (cI, 120, .inl w_24))])) H := hP
    refine lv_aload_n hx hb dL_law_256 rfl (lv_at hl 4 rfl) ?_
    refine lv_iload hx hb dL_law_257 (lv_at hl 0 rfl) ?_
    refine lv_iconst (v := (1 : Int32)) hx hb dL_law_259 (by decide) ?_
    refine lv_iadd hx hb dL_law_260 ?_
    refine lv_iload hx hb dL_law_261 (lv_at hl 9 rfl) ?_
    obtain ⟨u_25, hu_25, hr⟩ := pbd_e hr
    refine mu_XS ⟨hx, hb, hml, hown, hts⟩ (k_L_puts l dC dI cI cJ a_text (u_23.1 + (1 : Int32)) v9 120 w_24 H.size u_25 hu_25) (va_cwS 3 hts gL_law_L_puts rfl rfl rfl (by decide +kernel) ⟨(Nat.le_of_ble_eq_true rfl), (Nat.le_of_ble_eq_true rfl)⟩) hE rfl hl.1 rfl (Nat.le_of_ble_eq_true rfl) dL_law_263 ⟨(Nat.le_of_ble_eq_true rfl), (Nat.le_of_ble_eq_true rfl)⟩ hP (hD.fst rfl) hS hA [false, false, false, false, false, false, false, false, false, false, false, false, false, false, false, false, false, false, false, false, false, false, false, false, false, false, false, false, false, false, false, false, false, false, false, false, false, false, false, false, false, false, false, false, false, false, false, false, false, false, false, false, false, false, false, false, false, false, false, false, false, false, false, false, false, false, false, false, false, false, false, false, false, false, false, false, true] rfl (W1 := (wo cI cJ aO fO (0 : Int32) h6 (2 : Int32) (1 : Int32) (2 : Int32) (0 : Int32) (0 : Int32) (0 : Int32) (fun _ => (0 : Int32)) (0 : Int32) (fun _ => (0 : Int32)) (0 : Int32) (fun _ => (0 : Int32)) (0 : Int32) (fun _ => (0 : Int32)) (2 : Int32) (1 : Int32) (2 : Int32) (0 : Int32) (0 : Int32) (0 : Int32) (fun _ => (0 : Int32)) (0 : Int32) (fun _ => (0 : Int32)) (0 : Int32) (fun _ => (0 : Int32)) (0 : Int32) (fun _ => (0 : Int32)) (2 : Int32) (1 : Int32) (2 : Int32) (0 : Int32) (0 : Int32) (0 : Int32) (fun _ => (0 : Int32)) (0 : Int32) (fun _ => (0 : Int32)) (0 : Int32) (fun _ => (0 : Int32)) (0 : Int32) (fun _ => (0 : Int32)) (0 : Int32) (0 : Int32) (fun _ => (0 : Int32)) (0 : Int32) (fun _ => (0 : Int32)) so6 (fun _ => (0 : Int32)) (fun _ => (0 : Int64)) (wo cI cJ aX fX (0 : Int32) h6 x_now_p x_now_e x_now_modulus x_now_windowRow x_now_windowPlace x_now_marks_size x_now_marks_numbers (0 : Int32) (fun _ => (0 : Int32)) (0 : Int32) (fun _ => (0 : Int32)) (0 : Int32) (fun _ => (0 : Int32)) (2 : Int32) (1 : Int32) (2 : Int32) (0 : Int32) (0 : Int32) (0 : Int32) (fun _ => (0 : Int32)) (0 : Int32) (fun _ => (0 : Int32)) (0 : Int32) (fun _ => (0 : Int32)) (0 : Int32) (fun _ => (0 : Int32)) (2 : Int32) (1 : Int32) (2 : Int32) (0 : Int32) (0 : Int32) (0 : Int32) (fun _ => (0 : Int32)) (0 : Int32) (fun _ => (0 : Int32)) (0 : Int32) (fun _ => (0 : Int32)) (0 : Int32) (fun _ => (0 : Int32)) (0 : Int32) (0 : Int32) (fun _ => (0 : Int32)) (0 : Int32) (fun _ => (0 : Int32)) so6 (fun _ => (0 : Int32)) (fun _ => (0 : Int64)) [(a_text, .inl (cI, 120, .inl u_25.2))]))) rfl (fun H locs hP hS => W.eq (g2 := F0 m 266 ls [.int u_25.1]) rfl ?_)
    refine lv_istore (lv' := [(4, .int u_25.1), (0, .ref b), (1, .ref aO), (2, .ref aX), (3, .ref a_text), (5, .int v5), (6, .int v6), (7, .int v7), (8, .int v8), (9, .int v9), (10, .int v10)]) hx hb dL_law_266 hl (by decide) rfl (fun ls hl => ?_)
    refine lv_iload hx hb dL_law_268 (lv_at hl 5 rfl) ?_
    refine lv_aload_n hx hb dL_law_270 rfl (lv_at hl 3 rfl) ?_
    refine lv_iload hx hb dL_law_271 (lv_at hl 10 rfl) ?_
    refine lv_sipush (v := (140 : Int32)) hx hb dL_law_273 (by decide) ?_
    obtain ⟨d_26, ed_26, hd_26, hr⟩ := pmd_e hr
    refine lv_irem hx hb dL_law_276 hd_26 ?_
    refine tp_ ed_26 ?_
    refine lv_iload hx hb dL_law_277 (lv_at hl 9 rfl) ?_
    obtain ⟨u_27, hu_27, hr⟩ := pbd_e hr
    refine mu_X ⟨hx, hb, hml, hown, hts⟩ (k_X6_window l dC dI cI cJ aX (fX 0) (fX 2) (fX 11) (fX 20) (fX 29) (fX 33) (fX 3) (fX 5) (fX 7) (fX 9) d_26 v9 (0 : Int32) x_now_p x_now_e x_now_modulus x_now_windowRow x_now_windowPlace H.size u_27 hu_27) (cwV 2 hts gL_law_X6_window rfl rfl rfl (by decide +kernel) ⟨(Nat.le_of_ble_eq_true rfl), (Nat.le_of_ble_eq_true rfl)⟩) hE 38 rfl rfl rfl rfl hl.1 rfl (Nat.le_of_ble_eq_true rfl) dL_law_279 ⟨(Nat.le_of_ble_eq_true rfl), (Nat.le_of_ble_eq_true rfl)⟩ hP (hD.fst rfl) hS hA [false, false, false, false, false, false, false, false, false, false, false, false, false, false, false, false, false, false, false, false, false, false, false, false, false, false, false, false, false, false, false, false, false, false, false, false, false, false, true, false, false, true] rfl (W1 := (wo cI cJ aO fO (0 : Int32) h6 (2 : Int32) (1 : Int32) (2 : Int32) (0 : Int32) (0 : Int32) (0 : Int32) (fun _ => (0 : Int32)) (0 : Int32) (fun _ => (0 : Int32)) (0 : Int32) (fun _ => (0 : Int32)) (0 : Int32) (fun _ => (0 : Int32)) (2 : Int32) (1 : Int32) (2 : Int32) (0 : Int32) (0 : Int32) (0 : Int32) (fun _ => (0 : Int32)) (0 : Int32) (fun _ => (0 : Int32)) (0 : Int32) (fun _ => (0 : Int32)) (0 : Int32) (fun _ => (0 : Int32)) (2 : Int32) (1 : Int32) (2 : Int32) (0 : Int32) (0 : Int32) (0 : Int32) (fun _ => (0 : Int32)) (0 : Int32) (fun _ => (0 : Int32)) (0 : Int32) (fun _ => (0 : Int32)) (0 : Int32) (fun _ => (0 : Int32)) (0 : Int32) (0 : Int32) (fun _ => (0 : Int32)) (0 : Int32) (fun _ => (0 : Int32)) so6 (fun _ => (0 : Int32)) (fun _ => (0 : Int64)) (wo cI cJ aX fX (0 : Int32) h6 x_now_p x_now_e x_now_modulus u_27.2.1 u_27.2.2 x_now_marks_size x_now_marks_numbers (0 : Int32) (fun _ => (0 : Int32)) (0 : Int32) (fun _ => (0 : Int32)) (0 : Int32) (fun _ => (0 : Int32)) (2 : Int32) (1 : Int32) (2 : Int32) (0 : Int32) (0 : Int32) (0 : Int32) (fun _ => (0 : Int32)) (0 : Int32) (fun _ => (0 : Int32)) (0 : Int32) (fun _ => (0 : Int32)) (0 : Int32) (fun _ => (0 : Int32)) (2 : Int32) (1 : Int32) (2 : Int32) (0 : Int32) (0 : Int32) (0 : Int32) (fun _ => (0 : Int32)) (0 : Int32) (fun _ => (0 : Int32)) (0 : Int32) (fun _ => (0 : Int32)) (0 : Int32) (fun _ => (0 : Int32)) (0 : Int32) (0 : Int32) (fun _ => (0 : Int32)) (0 : Int32) (fun _ => (0 : Int32)) so6 (fun _ => (0 : Int32)) (fun _ => (0 : Int64)) [(a_text, .inl (cI, 120, .inl u_25.2))]))) rfl (fun H locs hP hS => W.eq (g2 := F0 m 282 ls [.int u_27.1, .int v5]) rfl ?_)
    have hJ_28 : ∀ (y_29 : Int32) (ey_29 : y_29 = (if (¬ (u_27.1 < 0)) then (1 : Int32) else (0 : Int32))) (ls : Array Slot), lv_has ls 21 [(0, .ref b), (1, .ref aO), (2, .ref aX), (3, .ref a_text), (4, .int u_25.1), (6, .int v6), (7, .int v7)] → W p l e room_1 s m #[Value.ref b] below meth c H locs 77 10066 (lw_Z below #[Value.ref b] s) (F0 m 290 ls [.int y_29, .int v5]) := by
      intro y_29 ey_29 ls hl
      subst ey_29
      refine lv_iadd hx hb dL_law_290 ?_
      refine lv_istore (lv' := [(5, .int (v5 + (if (¬ (u_27.1 < 0)) then (1 : Int32) else (0 : Int32)))), (0, .ref b), (1, .ref aO), (2, .ref aX), (3, .ref a_text), (4, .int u_25.1), (6, .int v6), (7, .int v7)]) hx hb dL_law_291 hl (by decide) rfl (fun ls hl => ?_)
      refine lv_goto (tgt := 429) hx hb dL_law_293 (by decide) ?_
      refine lv_iinc (v := (v7 + (1 : Int32))) (lv' := [(7, .int (v7 + (1 : Int32))), (5, .int (v5 + (if (¬ (u_27.1 < 0)) then (1 : Int32) else (0 : Int32)))), (0, .ref b), (1, .ref aO), (2, .ref aX), (3, .ref a_text), (4, .int u_25.1), (6, .int v6)]) hx hb dL_law_429 hl (k := 7) rfl (congrArg (fun z => v7 + z) (by decide)) (by decide) rfl (fun ls hl => ?_)
      refine lv_goto (tgt := 46) hx hb dL_law_432 (by decide) ?_
      exact hr aO fO aX fX a_text H locs ls (hD.fst rfl) hP hS (lv_sub hl [2, 3, 4, 5, 6, 1, 7, 0] rfl)
    refine lv_if_lt (tgt := 289) hx hb dL_law_282 (by decide) (fun c_30 => ?_) (fun c_30 => ?_)
    · refine lv_iconst (v := (0 : Int32)) hx hb dL_law_289 (by decide) ?_
      exact hJ_28 _ (if_neg (fun h => h c_30)).symm ls (lv_sub hl [1, 2, 3, 4, 0, 6, 7] rfl)
    · refine lv_iconst (v := (1 : Int32)) hx hb dL_law_285 (by decide) ?_
      refine lv_goto (tgt := 290) hx hb dL_law_286 (by decide) ?_
      exact hJ_28 _ (if_pos c_30).symm ls (lv_sub hl [1, 2, 3, 4, 0, 6, 7] rfl)
  have hr := pite_n hr c_20
  by_cases c_31 : d_1 = (3 : Int32)
  · have hr := pite_p hr c_31
    refine W.eq (g2 := F0 m 106 ls (.int (3 : Int32) :: [])) (congrArg (fun z => F0 m 106 ls (.int z :: [])) c_31) ?_
    refine lv_tableIn (tgt := 296) hx hb dL_law_106 (by decide) (by decide) (by first | rfl | decide) (by decide) ?_
    refine lv_aload_n hx hb dL_law_296 rfl (lv_at hl 3 rfl) ?_
    refine lv_iload hx hb dL_law_297 (lv_at hl 4 rfl) ?_
    refine lv_iload hx hb dL_law_299 (lv_at hl 7 rfl) ?_
    refine lv_iconst (v := (3 : Int32)) hx hb dL_law_301 (by decide) ?_
    obtain ⟨d_32, ed_32, hd_32, hr⟩ := pmd_e hr
    refine lv_irem hx hb dL_law_302 hd_32 ?_
    refine tp_ ed_32 ?_
    have hJ_33 : ∀ (y_34 : Int32) (ey_34 : y_34 = (if (¬ (d_32 = 0)) then (112 : Int32) else (120 : Int32))) (ls : Array Slot), lv_has ls 21 [(0, .ref b), (1, .ref aO), (2, .ref aX), (3, .ref a_text), (4, .int v4), (5, .int v5), (6, .int v6), (7, .int v7)] → W p l e room_1 s m #[Value.ref b] below meth c H locs 77 10066 (lw_Z below #[Value.ref b] s) (F0 m 313 ls [.int y_34, .int v4, .ref a_text]) := by
      intro y_34 ey_34 ls hl
      subst ey_34
      obtain ⟨w_35, ew_35, hw_35, hr⟩ := pwr_e hr
      refine va_iast hx hb hK hP (hD.fst rfl) hS 76 0 rfl rfl hw_35 dL_law_313 (fun H locs hP _ hS => ?_)
      rw [← ew_35] at hP
      have hP : va_P (dC, dI) vwCl (wo cI cJ aO fO (0 : Int32) h6 (2 : Int32) (1 : Int32) (2 : Int32) (0 : Int32) (0 : Int32) (0 : Int32) (fun _ => (0 : Int32)) (0 : Int32) (fun _ => (0 : Int32)) (0 : Int32) (fun _ => (0 : Int32)) (0 : Int32) (fun _ => (0 : Int32)) (2 : Int32) (1 : Int32) (2 : Int32) (0 : Int32) (0 : Int32) (0 : Int32) (fun _ => (0 : Int32)) (0 : Int32) (fun _ => (0 : Int32)) (0 : Int32) (fun _ => (0 : Int32)) (0 : Int32) (fun _ => (0 : Int32)) (2 : Int32) (1 : Int32) (2 : Int32) (0 : Int32) (0 : Int32) (0 : Int32) (fun _ => (0 : Int32)) (0 : Int32) (fun _ => (0 : Int32)) (0 : Int32) (fun _ => (0 : Int32)) (0 : Int32) (fun _ => (0 : Int32)) (0 : Int32) (0 : Int32) (fun _ => (0 : Int32)) (0 : Int32) (fun _ => (0 : Int32)) so6 (fun _ => (0 : Int32)) (fun _ => (0 : Int64)) (wo cI cJ aX fX (0 : Int32) h6 x_now_p x_now_e x_now_modulus x_now_windowRow x_now_windowPlace x_now_marks_size x_now_marks_numbers (0 : Int32) (fun _ => (0 : Int32)) (0 : Int32) (fun _ => (0 : Int32)) (0 : Int32) (fun _ => (0 : Int32)) (2 : Int32) (1 : Int32) (2 : Int32) (0 : Int32) (0 : Int32) (0 : Int32) (fun _ => (0 : Int32)) (0 : Int32) (fun _ => (0 : Int32)) (0 : Int32) (fun _ => (0 : Int32)) (0 : Int32) (fun _ => (0 : Int32)) (2 : Int32) (1 : Int32) (2 : Int32) (0 : Int32) (0 : Int32) (0 : Int32) (fun _ => (0 : Int32)) (0 : Int32) (fun _ => (0 : Int32)) (0 : Int32) (fun _ => (0 : Int32)) (0 : Int32) (fun _ => (0 : Int32)) (0 : Int32) (0 : Int32) (fun _ => (0 : Int32)) (0 : Int32) (fun _ => (0 : Int32)) so6 (fun _ => (0 : Int32)) (fun _ => (0 : Int64)) [(a_text, .inl (cI, 120, .inl w_35))])) H := hP
      refine lv_iinc (v := (v4 + (1 : Int32))) (lv' := [(4, .int (v4 + (1 : Int32))), (0, .ref b), (1, .ref aO), (2, .ref aX), (3, .ref a_text), (5, .int v5), (6, .int v6), (7, .int v7)]) hx hb dL_law_314 hl (k := 4) rfl (congrArg (fun z => v4 + z) (by decide)) (by decide) rfl (fun ls hl => ?_)
      refine lv_iload hx hb dL_law_317 (lv_at hl 7 rfl) ?_
      refine lv_iconst (v := (3 : Int32)) hx hb dL_law_319 (by decide) ?_
      obtain ⟨d_36, ed_36, hd_36, hr⟩ := pmd_e hr
      refine lv_irem hx hb dL_law_320 hd_36 ?_
      refine tp_ ed_36 ?_
      refine lv_if_ne (tgt := 344) hx hb dL_law_321 (by decide) (fun c_37 => ?_) (fun c_37 => ?_)
      · have hr := pite_n hr c_37
        refine lv_aload_n hx hb dL_law_344 rfl (lv_at hl 4 rfl) ?_
        refine lv_iload hx hb dL_law_345 (lv_at hl 0 rfl) ?_
        refine lv_iconst (v := (3 : Int32)) hx hb dL_law_347 (by decide) ?_
        obtain ⟨u_38, hu_38, hr⟩ := pbd_e hr
        refine mu_XS ⟨hx, hb, hml, hown, hts⟩ (k_L_puts l dC dI cI cJ a_text (v4 + (1 : Int32)) (3 : Int32) 120 w_35 H.size u_38 hu_38) (va_cwS 3 hts gL_law_L_puts rfl rfl rfl (by decide +kernel) ⟨(Nat.le_of_ble_eq_true rfl), (Nat.le_of_ble_eq_true rfl)⟩) hE rfl hl.1 rfl (Nat.le_of_ble_eq_true rfl) dL_law_348 ⟨(Nat.le_of_ble_eq_true rfl), (Nat.le_of_ble_eq_true rfl)⟩ hP (hD.fst rfl) hS hA [false, false, false, false, false, false, false, false, false, false, false, false, false, false, false, false, false, false, false, false, false, false, false, false, false, false, false, false, false, false, false, false, false, false, false, false, false, false, false, false, false, false, false, false, false, false, false, false, false, false, false, false, false, false, false, false, false, false, false, false, false, false, false, false, false, false, false, false, false, false, false, false, false, false, false, false, true] rfl (W1 := (wo cI cJ aO fO (0 : Int32) h6 (2 : Int32) (1 : Int32) (2 : Int32) (0 : Int32) (0 : Int32) (0 : Int32) (fun _ => (0 : Int32)) (0 : Int32) (fun _ => (0 : Int32)) (0 : Int32) (fun _ => (0 : Int32)) (0 : Int32) (fun _ => (0 : Int32)) (2 : Int32) (1 : Int32) (2 : Int32) (0 : Int32) (0 : Int32) (0 : Int32) (fun _ => (0 : Int32)) (0 : Int32) (fun _ => (0 : Int32)) (0 : Int32) (fun _ => (0 : Int32)) (0 : Int32) (fun _ => (0 : Int32)) (2 : Int32) (1 : Int32) (2 : Int32) (0 : Int32) (0 : Int32) (0 : Int32) (fun _ => (0 : Int32)) (0 : Int32) (fun _ => (0 : Int32)) (0 : Int32) (fun _ => (0 : Int32)) (0 : Int32) (fun _ => (0 : Int32)) (0 : Int32) (0 : Int32) (fun _ => (0 : Int32)) (0 : Int32) (fun _ => (0 : Int32)) so6 (fun _ => (0 : Int32)) (fun _ => (0 : Int64)) (wo cI cJ aX fX (0 : Int32) h6 x_now_p x_now_e x_now_modulus x_now_windowRow x_now_windowPlace x_now_marks_size x_now_marks_numbers (0 : Int32) (fun _ => (0 : Int32)) (0 : Int32) (fun _ => (0 : Int32)) (0 : Int32) (fun _ => (0 : Int32)) (2 : Int32) (1 : Int32) (2 : Int32) (0 : Int32) (0 : Int32) (0 : Int32) (fun _ => (0 : Int32)) (0 : Int32) (fun _ => (0 : Int32)) (0 : Int32) (fun _ => (0 : Int32)) (0 : Int32) (fun _ => (0 : Int32)) (2 : Int32) (1 : Int32) (2 : Int32) (0 : Int32) (0 : Int32) (0 : Int32) (fun _ => (0 : Int32)) (0 : Int32) (fun _ => (0 : Int32)) (0 : Int32) (fun _ => (0 : Int32)) (0 : Int32) (fun _ => (0 : Int32)) (0 : Int32) (0 : Int32) (fun _ => (0 : Int32)) (0 : Int32) (fun _ => (0 : Int32)) so6 (fun _ => (0 : Int32)) (fun _ => (0 : Int64)) [(a_text, .inl (cI, 120, .inl u_38.2))]))) rfl (fun H locs hP hS => W.eq (g2 := F0 m 351 ls [.int u_38.1]) rfl ?_)
        refine lv_istore (lv' := [(4, .int u_38.1), (0, .ref b), (1, .ref aO), (2, .ref aX), (3, .ref a_text), (5, .int v5), (6, .int v6), (7, .int v7)]) hx hb dL_law_351 hl (by decide) rfl (fun ls hl => ?_)
        refine lv_iload hx hb dL_law_353 (lv_at hl 5 rfl) ?_
        refine lv_aload_n hx hb dL_law_355 rfl (lv_at hl 3 rfl) ?_
        refine lv_iconst (v := (3 : Int32)) hx hb dL_law_356 (by decide) ?_
        obtain ⟨u_39, hu_39, hr⟩ := pbd_e hr
        refine mu_X ⟨hx, hb, hml, hown, hts⟩ (k_X6_prime l dC dI cI cJ aX (fX 0) (fX 2) (fX 11) (fX 20) (fX 29) (fX 33) (fX 3) (fX 5) (fX 7) (fX 9) (3 : Int32) (0 : Int32) x_now_p x_now_e x_now_modulus x_now_windowRow x_now_windowPlace H.size u_39 hu_39) (cwV 1 hts gL_law_X6_prime rfl rfl rfl (by decide +kernel) ⟨(Nat.le_of_ble_eq_true rfl), (Nat.le_of_ble_eq_true rfl)⟩) hE 38 rfl rfl rfl rfl hl.1 rfl (Nat.le_of_ble_eq_true rfl) dL_law_357 ⟨(Nat.le_of_ble_eq_true rfl), (Nat.le_of_ble_eq_true rfl)⟩ hP (hD.fst rfl) hS hA [false, false, false, false, false, false, false, false, false, false, false, false, false, false, false, false, false, false, false, false, false, false, false, false, false, false, false, false, false, false, false, false, false, false, false, false, false, false, true, false, false, true] rfl (W1 := (wo cI cJ aO fO (0 : Int32) h6 (2 : Int32) (1 : Int32) (2 : Int32) (0 : Int32) (0 : Int32) (0 : Int32) (fun _ => (0 : Int32)) (0 : Int32) (fun _ => (0 : Int32)) (0 : Int32) (fun _ => (0 : Int32)) (0 : Int32) (fun _ => (0 : Int32)) (2 : Int32) (1 : Int32) (2 : Int32) (0 : Int32) (0 : Int32) (0 : Int32) (fun _ => (0 : Int32)) (0 : Int32) (fun _ => (0 : Int32)) (0 : Int32) (fun _ => (0 : Int32)) (0 : Int32) (fun _ => (0 : Int32)) (2 : Int32) (1 : Int32) (2 : Int32) (0 : Int32) (0 : Int32) (0 : Int32) (fun _ => (0 : Int32)) (0 : Int32) (fun _ => (0 : Int32)) (0 : Int32) (fun _ => (0 : Int32)) (0 : Int32) (fun _ => (0 : Int32)) (0 : Int32) (0 : Int32) (fun _ => (0 : Int32)) (0 : Int32) (fun _ => (0 : Int32)) so6 (fun _ => (0 : Int32)) (fun _ => (0 : Int64)) (wo cI cJ aX fX (0 : Int32) h6 u_39.2.1 u_39.2.2.1 u_39.2.2.2 x_now_windowRow x_now_windowPlace x_now_marks_size x_now_marks_numbers (0 : Int32) (fun _ => (0 : Int32)) (0 : Int32) (fun _ => (0 : Int32)) (0 : Int32) (fun _ => (0 : Int32)) (2 : Int32) (1 : Int32) (2 : Int32) (0 : Int32) (0 : Int32) (0 : Int32) (fun _ => (0 : Int32)) (0 : Int32) (fun _ => (0 : Int32)) (0 : Int32) (fun _ => (0 : Int32)) (0 : Int32) (fun _ => (0 : Int32)) (2 : Int32) (1 : Int32) (2 : Int32) (0 : Int32) (0 : Int32) (0 : Int32) (fun _ => (0 : Int32)) (0 : Int32) (fun _ => (0 : Int32)) (0 : Int32) (fun _ => (0 : Int32)) (0 : Int32) (fun _ => (0 : Int32)) (0 : Int32) (0 : Int32) (fun _ => (0 : Int32)) (0 : Int32) (fun _ => (0 : Int32)) so6 (fun _ => (0 : Int32)) (fun _ => (0 : Int64)) [(a_text, .inl (cI, 120, .inl u_38.2))]))) rfl (fun H locs hP hS => W.eq (g2 := F0 m 360 ls [.int u_39.1, .int v5]) rfl ?_)
        have hJ_40 : ∀ (y_41 : Int32) (ey_41 : y_41 = (if (¬ (u_39.1 < 0)) then (1 : Int32) else (0 : Int32))) (ls : Array Slot), lv_has ls 21 [(0, .ref b), (1, .ref aO), (2, .ref aX), (3, .ref a_text), (4, .int u_38.1), (6, .int v6), (7, .int v7)] → W p l e room_1 s m #[Value.ref b] below meth c H locs 77 10066 (lw_Z below #[Value.ref b] s) (F0 m 368 ls [.int y_41, .int v5]) := by
          intro y_41 ey_41 ls hl
          subst ey_41
          refine lv_iadd hx hb dL_law_368 ?_
          refine lv_istore (lv' := [(5, .int (v5 + (if (¬ (u_39.1 < 0)) then (1 : Int32) else (0 : Int32)))), (0, .ref b), (1, .ref aO), (2, .ref aX), (3, .ref a_text), (4, .int u_38.1), (6, .int v6), (7, .int v7)]) hx hb dL_law_369 hl (by decide) rfl (fun ls hl => ?_)
          refine lv_goto (tgt := 429) hx hb dL_law_371 (by decide) ?_
          refine lv_iinc (v := (v7 + (1 : Int32))) (lv' := [(7, .int (v7 + (1 : Int32))), (5, .int (v5 + (if (¬ (u_39.1 < 0)) then (1 : Int32) else (0 : Int32)))), (0, .ref b), (1, .ref aO), (2, .ref aX), (3, .ref a_text), (4, .int u_38.1), (6, .int v6)]) hx hb dL_law_429 hl (k := 7) rfl (congrArg (fun z => v7 + z) (by decide)) (by decide) rfl (fun ls hl => ?_)
          refine lv_goto (tgt := 46) hx hb dL_law_432 (by decide) ?_
          exact hr aO fO aX fX a_text H locs ls (hD.fst rfl) hP hS (lv_sub hl [2, 3, 4, 5, 6, 1, 7, 0] rfl)
        refine lv_if_lt (tgt := 367) hx hb dL_law_360 (by decide) (fun c_42 => ?_) (fun c_42 => ?_)
        · refine lv_iconst (v := (0 : Int32)) hx hb dL_law_367 (by decide) ?_
          exact hJ_40 _ (if_neg (fun h => h c_42)).symm ls (lv_sub hl [1, 2, 3, 4, 0, 6, 7] rfl)
        · refine lv_iconst (v := (1 : Int32)) hx hb dL_law_363 (by decide) ?_
          refine lv_goto (tgt := 368) hx hb dL_law_364 (by decide) ?_
          exact hJ_40 _ (if_pos c_42).symm ls (lv_sub hl [1, 2, 3, 4, 0, 6, 7] rfl)
      · have hr := pite_p hr c_37
        refine lv_iload hx hb dL_law_324 (lv_at hl 5 rfl) ?_
        refine lv_aload_n hx hb dL_law_326 rfl (lv_at hl 3 rfl) ?_
        obtain ⟨u_43, hu_43, hr⟩ := pbd_e hr
        refine mu_X ⟨hx, hb, hml, hown, hts⟩ (k_X6_clear l dC dI cI cJ aX (fX 0) (fX 2) (fX 11) (fX 20) (fX 29) (fX 33) (fX 3) (fX 5) (fX 7) (fX 9) (fX 4) (0 : Int32) x_now_p x_now_e x_now_modulus x_now_windowRow x_now_windowPlace x_now_marks_size H.size u_43 hu_43) (cwV 0 hts gL_law_X6_clear rfl rfl rfl (by decide +kernel) ⟨(Nat.le_of_ble_eq_true rfl), (Nat.le_of_ble_eq_true rfl)⟩) hE 38 rfl rfl rfl rfl hl.1 rfl (Nat.le_of_ble_eq_true rfl) dL_law_327 ⟨(Nat.le_of_ble_eq_true rfl), (Nat.le_of_ble_eq_true rfl)⟩ hP (hD.fst rfl) hS hA [false, false, false, false, false, false, false, false, false, false, false, false, false, false, false, false, false, false, false, false, false, false, false, false, false, false, false, false, false, false, false, false, false, false, false, false, false, false, true, false, false, true, true] rfl (W1 := (wo cI cJ aO fO (0 : Int32) h6 (2 : Int32) (1 : Int32) (2 : Int32) (0 : Int32) (0 : Int32) (0 : Int32) (fun _ => (0 : Int32)) (0 : Int32) (fun _ => (0 : Int32)) (0 : Int32) (fun _ => (0 : Int32)) (0 : Int32) (fun _ => (0 : Int32)) (2 : Int32) (1 : Int32) (2 : Int32) (0 : Int32) (0 : Int32) (0 : Int32) (fun _ => (0 : Int32)) (0 : Int32) (fun _ => (0 : Int32)) (0 : Int32) (fun _ => (0 : Int32)) (0 : Int32) (fun _ => (0 : Int32)) (2 : Int32) (1 : Int32) (2 : Int32) (0 : Int32) (0 : Int32) (0 : Int32) (fun _ => (0 : Int32)) (0 : Int32) (fun _ => (0 : Int32)) (0 : Int32) (fun _ => (0 : Int32)) (0 : Int32) (fun _ => (0 : Int32)) (0 : Int32) (0 : Int32) (fun _ => (0 : Int32)) (0 : Int32) (fun _ => (0 : Int32)) so6 (fun _ => (0 : Int32)) (fun _ => (0 : Int64)) (wo cI cJ aX fX (0 : Int32) h6 x_now_p x_now_e x_now_modulus x_now_windowRow x_now_windowPlace u_43.2 x_now_marks_numbers (0 : Int32) (fun _ => (0 : Int32)) (0 : Int32) (fun _ => (0 : Int32)) (0 : Int32) (fun _ => (0 : Int32)) (2 : Int32) (1 : Int32) (2 : Int32) (0 : Int32) (0 : Int32) (0 : Int32) (fun _ => (0 : Int32)) (0 : Int32) (fun _ => (0 : Int32)) (0 : Int32) (fun _ => (0 : Int32)) (0 : Int32) (fun _ => (0 : Int32)) (2 : Int32) (1 : Int32) (2 : Int32) (0 : Int32) (0 : Int32) (0 : Int32) (fun _ => (0 : Int32)) (0 : Int32) (fun _ => (0 : Int32)) (0 : Int32) (fun _ => (0 : Int32)) (0 : Int32) (fun _ => (0 : Int32)) (0 : Int32) (0 : Int32) (fun _ => (0 : Int32)) (0 : Int32) (fun _ => (0 : Int32)) so6 (fun _ => (0 : Int32)) (fun _ => (0 : Int64)) [(a_text, .inl (cI, 120, .inl w_35))]))) rfl (fun H locs hP hS => W.eq (g2 := F0 m 330 ls [.int u_43.1, .int v5]) rfl ?_)
        have hJ_44 : ∀ (y_45 : Int32) (ey_45 : y_45 = (if (¬ (u_43.1 < 0)) then (1 : Int32) else (0 : Int32))) (ls : Array Slot), lv_has ls 21 [(0, .ref b), (1, .ref aO), (2, .ref aX), (3, .ref a_text), (4, .int (v4 + (1 : Int32))), (6, .int v6), (7, .int v7)] → W p l e room_1 s m #[Value.ref b] below meth c H locs 77 10066 (lw_Z below #[Value.ref b] s) (F0 m 338 ls [.int y_45, .int v5]) := by
          intro y_45 ey_45 ls hl
          subst ey_45
          refine lv_iadd hx hb dL_law_338 ?_
          refine lv_istore (lv' := [(5, .int (v5 + (if (¬ (u_43.1 < 0)) then (1 : Int32) else (0 : Int32)))), (0, .ref b), (1, .ref aO), (2, .ref aX), (3, .ref a_text), (4, .int (v4 + (1 : Int32))), (6, .int v6), (7, .int v7)]) hx hb dL_law_339 hl (by decide) rfl (fun ls hl => ?_)
          refine lv_goto (tgt := 429) hx hb dL_law_341 (by decide) ?_
          refine lv_iinc (v := (v7 + (1 : Int32))) (lv' := [(7, .int (v7 + (1 : Int32))), (5, .int (v5 + (if (¬ (u_43.1 < 0)) then (1 : Int32) else (0 : Int32)))), (0, .ref b), (1, .ref aO), (2, .ref aX), (3, .ref a_text), (4, .int (v4 + (1 : Int32))), (6, .int v6)]) hx hb dL_law_429 hl (k := 7) rfl (congrArg (fun z => v7 + z) (by decide)) (by decide) rfl (fun ls hl => ?_)
          refine lv_goto (tgt := 46) hx hb dL_law_432 (by decide) ?_
          exact hr aO fO aX fX a_text H locs ls (hD.fst rfl) hP hS (lv_sub hl [2, 3, 4, 5, 6, 1, 7, 0] rfl)
        refine lv_if_lt (tgt := 337) hx hb dL_law_330 (by decide) (fun c_46 => ?_) (fun c_46 => ?_)
        · refine lv_iconst (v := (0 : Int32)) hx hb dL_law_337 (by decide) ?_
          exact hJ_44 _ (if_neg (fun h => h c_46)).symm ls (lv_sub hl [1, 2, 3, 4, 0, 6, 7] rfl)
        · refine lv_iconst (v := (1 : Int32)) hx hb dL_law_333 (by decide) ?_
          refine lv_goto (tgt := 338) hx hb dL_law_334 (by decide) ?_
          exact hJ_44 _ (if_pos c_46).symm ls (lv_sub hl [1, 2, 3, 4, 0, 6, 7] rfl)
    refine lv_if_ne (tgt := 311) hx hb dL_law_303 (by decide) (fun c_47 => ?_) (fun c_47 => ?_)
    · refine lv_bipush (v := (112 : Int32)) hx hb dL_law_311 (by decide) ?_
      exact hJ_33 _ (if_pos c_47).symm ls (lv_sub hl [0, 1, 2, 3, 4, 5, 6, 7] rfl)
    · refine lv_bipush (v := (120 : Int32)) hx hb dL_law_306 (by decide) ?_
      refine lv_goto (tgt := 313) hx hb dL_law_308 (by decide) ?_
      exact hJ_33 _ (if_neg (fun h => h c_47)).symm ls (lv_sub hl [0, 1, 2, 3, 4, 5, 6, 7] rfl)
  have hr := pite_n hr c_31
  refine lv_tableOut (tgt := 374) hx hb dL_law_106 (tbl_out (fun k h1 h2 => ?_)) (by decide) ?_
  · rcases (show k = 0 ∨ k = 1 ∨ k = 2 ∨ k = 3 by omega) with rfl | rfl | rfl | rfl
    · exact i32_ne c_2 rfl
    · exact i32_ne c_11 rfl
    · exact i32_ne c_20 rfl
    · exact i32_ne c_31 rfl
  refine lv_aload_n hx hb dL_law_374 rfl (lv_at hl 3 rfl) ?_
  refine lv_iload hx hb dL_law_375 (lv_at hl 4 rfl) ?_
  refine lv_bipush (v := (109 : Int32)) hx hb dL_law_377 (by decide) ?_
  obtain ⟨w_48, ew_48, hw_48, hr⟩ := pwr_e hr
  refine va_iast hx hb hK hP (hD.fst rfl) hS 76 0 rfl rfl hw_48 dL_law_379 (fun H locs hP _ hS => ?_)
  rw [← ew_48] at hP
  have hP : va_P (dC, dI) vwCl (wo cI cJ aO fO (0 : Int32) h6 (2 : Int32) (1 : Int32) (2 : Int32) (0 : Int32) (0 : Int32) (0 : Int32) (fun _ => (0 : Int32)) (0 : Int32) (fun _ => (0 : Int32)) (0 : Int32) (fun _ => (0 : Int32)) (0 : Int32) (fun _ => (0 : Int32)) (2 : Int32) (1 : Int32) (2 : Int32) (0 : Int32) (0 : Int32) (0 : Int32) (fun _ => (0 : Int32)) (0 : Int32) (fun _ => (0 : Int32)) (0 : Int32) (fun _ => (0 : Int32)) (0 : Int32) (fun _ => (0 : Int32)) (2 : Int32) (1 : Int32) (2 : Int32) (0 : Int32) (0 : Int32) (0 : Int32) (fun _ => (0 : Int32)) (0 : Int32) (fun _ => (0 : Int32)) (0 : Int32) (fun _ => (0 : Int32)) (0 : Int32) (fun _ => (0 : Int32)) (0 : Int32) (0 : Int32) (fun _ => (0 : Int32)) (0 : Int32) (fun _ => (0 : Int32)) so6 (fun _ => (0 : Int32)) (fun _ => (0 : Int64)) (wo cI cJ aX fX (0 : Int32) h6 x_now_p x_now_e x_now_modulus x_now_windowRow x_now_windowPlace x_now_marks_size x_now_marks_numbers (0 : Int32) (fun _ => (0 : Int32)) (0 : Int32) (fun _ => (0 : Int32)) (0 : Int32) (fun _ => (0 : Int32)) (2 : Int32) (1 : Int32) (2 : Int32) (0 : Int32) (0 : Int32) (0 : Int32) (fun _ => (0 : Int32)) (0 : Int32) (fun _ => (0 : Int32)) (0 : Int32) (fun _ => (0 : Int32)) (0 : Int32) (fun _ => (0 : Int32)) (2 : Int32) (1 : Int32) (2 : Int32) (0 : Int32) (0 : Int32) (0 : Int32) (fun _ => (0 : Int32)) (0 : Int32) (fun _ => (0 : Int32)) (0 : Int32) (fun _ => (0 : Int32)) (0 : Int32) (fun _ => (0 : Int32)) (0 : Int32) (0 : Int32) (fun _ => (0 : Int32)) (0 : Int32) (fun _ => (0 : Int32)) so6 (fun _ => (0 : Int32)) (fun _ => (0 : Int64)) [(a_text, .inl (cI, 120, .inl w_48))])) H := hP
  refine lv_aload_n hx hb dL_law_380 rfl (lv_at hl 3 rfl) ?_
  refine lv_iload hx hb dL_law_381 (lv_at hl 4 rfl) ?_
  refine lv_iconst (v := (1 : Int32)) hx hb dL_law_383 (by decide) ?_
  refine lv_iadd hx hb dL_law_384 ?_
  refine lv_iload hx hb dL_law_385 (lv_at hl 9 rfl) ?_
  refine lv_bipush (v := (6 : Int32)) hx hb dL_law_387 (by decide) ?_
  obtain ⟨d_49, ed_49, hd_49, hr⟩ := pmd_e hr
  refine lv_irem hx hb dL_law_389 hd_49 ?_
  refine tp_ ed_49 ?_
  obtain ⟨u_50, hu_50, hr⟩ := pbd_e hr
  refine mu_XS ⟨hx, hb, hml, hown, hts⟩ (k_L_puts l dC dI cI cJ a_text (v4 + (1 : Int32)) d_49 120 w_48 H.size u_50 hu_50) (va_cwS 3 hts gL_law_L_puts rfl rfl rfl (by decide +kernel) ⟨(Nat.le_of_ble_eq_true rfl), (Nat.le_of_ble_eq_true rfl)⟩) hE rfl hl.1 rfl (Nat.le_of_ble_eq_true rfl) dL_law_390 ⟨(Nat.le_of_ble_eq_true rfl), (Nat.le_of_ble_eq_true rfl)⟩ hP (hD.fst rfl) hS hA [false, false, false, false, false, false, false, false, false, false, false, false, false, false, false, false, false, false, false, false, false, false, false, false, false, false, false, false, false, false, false, false, false, false, false, false, false, false, false, false, false, false, false, false, false, false, false, false, false, false, false, false, false, false, false, false, false, false, false, false, false, false, false, false, false, false, false, false, false, false, false, false, false, false, false, false, true] rfl (W1 := (wo cI cJ aO fO (0 : Int32) h6 (2 : Int32) (1 : Int32) (2 : Int32) (0 : Int32) (0 : Int32) (0 : Int32) (fun _ => (0 : Int32)) (0 : Int32) (fun _ => (0 : Int32)) (0 : Int32) (fun _ => (0 : Int32)) (0 : Int32) (fun _ => (0 : Int32)) (2 : Int32) (1 : Int32) (2 : Int32) (0 : Int32) (0 : Int32) (0 : Int32) (fun _ => (0 : Int32)) (0 : Int32) (fun _ => (0 : Int32)) (0 : Int32) (fun _ => (0 : Int32)) (0 : Int32) (fun _ => (0 : Int32)) (2 : Int32) (1 : Int32) (2 : Int32) (0 : Int32) (0 : Int32) (0 : Int32) (fun _ => (0 : Int32)) (0 : Int32) (fun _ => (0 : Int32)) (0 : Int32) (fun _ => (0 : Int32)) (0 : Int32) (fun _ => (0 : Int32)) (0 : Int32) (0 : Int32) (fun _ => (0 : Int32)) (0 : Int32) (fun _ => (0 : Int32)) so6 (fun _ => (0 : Int32)) (fun _ => (0 : Int64)) (wo cI cJ aX fX (0 : Int32) h6 x_now_p x_now_e x_now_modulus x_now_windowRow x_now_windowPlace x_now_marks_size x_now_marks_numbers (0 : Int32) (fun _ => (0 : Int32)) (0 : Int32) (fun _ => (0 : Int32)) (0 : Int32) (fun _ => (0 : Int32)) (2 : Int32) (1 : Int32) (2 : Int32) (0 : Int32) (0 : Int32) (0 : Int32) (fun _ => (0 : Int32)) (0 : Int32) (fun _ => (0 : Int32)) (0 : Int32) (fun _ => (0 : Int32)) (0 : Int32) (fun _ => (0 : Int32)) (2 : Int32) (1 : Int32) (2 : Int32) (0 : Int32) (0 : Int32) (0 : Int32) (fun _ => (0 : Int32)) (0 : Int32) (fun _ => (0 : Int32)) (0 : Int32) (fun _ => (0 : Int32)) (0 : Int32) (fun _ => (0 : Int32)) (0 : Int32) (0 : Int32) (fun _ => (0 : Int32)) (0 : Int32) (fun _ => (0 : Int32)) so6 (fun _ => (0 : Int32)) (fun _ => (0 : Int64)) [(a_text, .inl (cI, 120, .inl u_50.2))]))) rfl (fun H locs hP hS => W.eq (g2 := F0 m 393 ls [.int u_50.1]) rfl ?_)
  refine lv_istore (lv' := [(4, .int u_50.1), (0, .ref b), (1, .ref aO), (2, .ref aX), (3, .ref a_text), (5, .int v5), (6, .int v6), (7, .int v7), (8, .int v8), (9, .int v9), (10, .int v10)]) hx hb dL_law_393 hl (by decide) rfl (fun ls hl => ?_)
  refine lv_aload_n hx hb dL_law_395 rfl (lv_at hl 4 rfl) ?_
  refine lv_iload hx hb dL_law_396 (lv_at hl 0 rfl) ?_
  refine lv_iload hx hb dL_law_398 (lv_at hl 10 rfl) ?_
  obtain ⟨u_51, hu_51, hr⟩ := pbd_e hr
  refine mu_XS ⟨hx, hb, hml, hown, hts⟩ (k_L_puts l dC dI cI cJ a_text u_50.1 v10 120 u_50.2 H.size u_51 hu_51) (va_cwS 3 hts gL_law_L_puts rfl rfl rfl (by decide +kernel) ⟨(Nat.le_of_ble_eq_true rfl), (Nat.le_of_ble_eq_true rfl)⟩) hE rfl hl.1 rfl (Nat.le_of_ble_eq_true rfl) dL_law_400 ⟨(Nat.le_of_ble_eq_true rfl), (Nat.le_of_ble_eq_true rfl)⟩ hP (hD.fst rfl) hS hA [false, false, false, false, false, false, false, false, false, false, false, false, false, false, false, false, false, false, false, false, false, false, false, false, false, false, false, false, false, false, false, false, false, false, false, false, false, false, false, false, false, false, false, false, false, false, false, false, false, false, false, false, false, false, false, false, false, false, false, false, false, false, false, false, false, false, false, false, false, false, false, false, false, false, false, false, true] rfl (W1 := (wo cI cJ aO fO (0 : Int32) h6 (2 : Int32) (1 : Int32) (2 : Int32) (0 : Int32) (0 : Int32) (0 : Int32) (fun _ => (0 : Int32)) (0 : Int32) (fun _ => (0 : Int32)) (0 : Int32) (fun _ => (0 : Int32)) (0 : Int32) (fun _ => (0 : Int32)) (2 : Int32) (1 : Int32) (2 : Int32) (0 : Int32) (0 : Int32) (0 : Int32) (fun _ => (0 : Int32)) (0 : Int32) (fun _ => (0 : Int32)) (0 : Int32) (fun _ => (0 : Int32)) (0 : Int32) (fun _ => (0 : Int32)) (2 : Int32) (1 : Int32) (2 : Int32) (0 : Int32) (0 : Int32) (0 : Int32) (fun _ => (0 : Int32)) (0 : Int32) (fun _ => (0 : Int32)) (0 : Int32) (fun _ => (0 : Int32)) (0 : Int32) (fun _ => (0 : Int32)) (0 : Int32) (0 : Int32) (fun _ => (0 : Int32)) (0 : Int32) (fun _ => (0 : Int32)) so6 (fun _ => (0 : Int32)) (fun _ => (0 : Int64)) (wo cI cJ aX fX (0 : Int32) h6 x_now_p x_now_e x_now_modulus x_now_windowRow x_now_windowPlace x_now_marks_size x_now_marks_numbers (0 : Int32) (fun _ => (0 : Int32)) (0 : Int32) (fun _ => (0 : Int32)) (0 : Int32) (fun _ => (0 : Int32)) (2 : Int32) (1 : Int32) (2 : Int32) (0 : Int32) (0 : Int32) (0 : Int32) (fun _ => (0 : Int32)) (0 : Int32) (fun _ => (0 : Int32)) (0 : Int32) (fun _ => (0 : Int32)) (0 : Int32) (fun _ => (0 : Int32)) (2 : Int32) (1 : Int32) (2 : Int32) (0 : Int32) (0 : Int32) (0 : Int32) (fun _ => (0 : Int32)) (0 : Int32) (fun _ => (0 : Int32)) (0 : Int32) (fun _ => (0 : Int32)) (0 : Int32) (fun _ => (0 : Int32)) (0 : Int32) (0 : Int32) (fun _ => (0 : Int32)) (0 : Int32) (fun _ => (0 : Int32)) so6 (fun _ => (0 : Int32)) (fun _ => (0 : Int64)) [(a_text, .inl (cI, 120, .inl u_51.2))]))) rfl (fun H locs hP hS => W.eq (g2 := F0 m 403 ls [.int u_51.1]) rfl ?_)
  refine lv_istore (lv' := [(4, .int u_51.1), (0, .ref b), (1, .ref aO), (2, .ref aX), (3, .ref a_text), (5, .int v5), (6, .int v6), (7, .int v7), (8, .int v8), (9, .int v9), (10, .int v10)]) hx hb dL_law_403 hl (by decide) rfl (fun ls hl => ?_)
  refine lv_iload hx hb dL_law_405 (lv_at hl 5 rfl) ?_
  refine lv_aload_n hx hb dL_law_407 rfl (lv_at hl 3 rfl) ?_
  refine lv_iload hx hb dL_law_408 (lv_at hl 9 rfl) ?_
  refine lv_bipush (v := (6 : Int32)) hx hb dL_law_410 (by decide) ?_
  obtain ⟨d_52, ed_52, hd_52, hr⟩ := pmd_e hr
  refine lv_irem hx hb dL_law_412 hd_52 ?_
  refine tp_ ed_52 ?_
  refine lv_iload hx hb dL_law_413 (lv_at hl 10 rfl) ?_
  obtain ⟨u_53, hu_53, hr⟩ := pbd_e hr
  refine mu_X ⟨hx, hb, hml, hown, hts⟩ (k_X6_mark l dC dI cI cJ aX (fX 0) (fX 2) (fX 11) (fX 20) (fX 29) (fX 33) (fX 3) (fX 5) (fX 7) (fX 9) (fX 4) d_52 v10 (0 : Int32) x_now_p x_now_e x_now_modulus x_now_windowRow x_now_windowPlace x_now_marks_size x_now_marks_numbers H.size u_53 hu_53) (cwV 2 hts gL_law_X6_mark rfl rfl rfl (by decide +kernel) ⟨(Nat.le_of_ble_eq_true rfl), (Nat.le_of_ble_eq_true rfl)⟩) hE 38 rfl rfl rfl rfl hl.1 rfl (Nat.le_of_ble_eq_true rfl) dL_law_415 ⟨(Nat.le_of_ble_eq_true rfl), (Nat.le_of_ble_eq_true rfl)⟩ hP (hD.fst rfl) hS hA [false, false, false, false, false, false, false, false, false, false, false, false, false, false, false, false, false, false, false, false, false, false, false, false, false, false, false, false, false, false, false, false, false, false, false, false, false, false, true, false, false, true, true, true] rfl (W1 := (wo cI cJ aO fO (0 : Int32) h6 (2 : Int32) (1 : Int32) (2 : Int32) (0 : Int32) (0 : Int32) (0 : Int32) (fun _ => (0 : Int32)) (0 : Int32) (fun _ => (0 : Int32)) (0 : Int32) (fun _ => (0 : Int32)) (0 : Int32) (fun _ => (0 : Int32)) (2 : Int32) (1 : Int32) (2 : Int32) (0 : Int32) (0 : Int32) (0 : Int32) (fun _ => (0 : Int32)) (0 : Int32) (fun _ => (0 : Int32)) (0 : Int32) (fun _ => (0 : Int32)) (0 : Int32) (fun _ => (0 : Int32)) (2 : Int32) (1 : Int32) (2 : Int32) (0 : Int32) (0 : Int32) (0 : Int32) (fun _ => (0 : Int32)) (0 : Int32) (fun _ => (0 : Int32)) (0 : Int32) (fun _ => (0 : Int32)) (0 : Int32) (fun _ => (0 : Int32)) (0 : Int32) (0 : Int32) (fun _ => (0 : Int32)) (0 : Int32) (fun _ => (0 : Int32)) so6 (fun _ => (0 : Int32)) (fun _ => (0 : Int64)) (wo cI cJ aX fX (0 : Int32) h6 x_now_p x_now_e x_now_modulus x_now_windowRow x_now_windowPlace u_53.2.2 u_53.2.1 (0 : Int32) (fun _ => (0 : Int32)) (0 : Int32) (fun _ => (0 : Int32)) (0 : Int32) (fun _ => (0 : Int32)) (2 : Int32) (1 : Int32) (2 : Int32) (0 : Int32) (0 : Int32) (0 : Int32) (fun _ => (0 : Int32)) (0 : Int32) (fun _ => (0 : Int32)) (0 : Int32) (fun _ => (0 : Int32)) (0 : Int32) (fun _ => (0 : Int32)) (2 : Int32) (1 : Int32) (2 : Int32) (0 : Int32) (0 : Int32) (0 : Int32) (fun _ => (0 : Int32)) (0 : Int32) (fun _ => (0 : Int32)) (0 : Int32) (fun _ => (0 : Int32)) (0 : Int32) (fun _ => (0 : Int32)) (0 : Int32) (0 : Int32) (fun _ => (0 : Int32)) (0 : Int32) (fun _ => (0 : Int32)) so6 (fun _ => (0 : Int32)) (fun _ => (0 : Int64)) [(a_text, .inl (cI, 120, .inl u_51.2))]))) rfl (fun H locs hP hS => W.eq (g2 := F0 m 418 ls [.int u_53.1, .int v5]) rfl ?_)
  have hJ_54 : ∀ (y_55 : Int32) (ey_55 : y_55 = (if (¬ (u_53.1 < 0)) then (1 : Int32) else (0 : Int32))) (ls : Array Slot), lv_has ls 21 [(0, .ref b), (1, .ref aO), (2, .ref aX), (3, .ref a_text), (4, .int u_51.1), (6, .int v6), (7, .int v7)] → W p l e room_1 s m #[Value.ref b] below meth c H locs 77 10066 (lw_Z below #[Value.ref b] s) (F0 m 426 ls [.int y_55, .int v5]) := by
    intro y_55 ey_55 ls hl
    subst ey_55
    refine lv_iadd hx hb dL_law_426 ?_
    refine lv_istore (lv' := [(5, .int (v5 + (if (¬ (u_53.1 < 0)) then (1 : Int32) else (0 : Int32)))), (0, .ref b), (1, .ref aO), (2, .ref aX), (3, .ref a_text), (4, .int u_51.1), (6, .int v6), (7, .int v7)]) hx hb dL_law_427 hl (by decide) rfl (fun ls hl => ?_)
    refine lv_iinc (v := (v7 + (1 : Int32))) (lv' := [(7, .int (v7 + (1 : Int32))), (5, .int (v5 + (if (¬ (u_53.1 < 0)) then (1 : Int32) else (0 : Int32)))), (0, .ref b), (1, .ref aO), (2, .ref aX), (3, .ref a_text), (4, .int u_51.1), (6, .int v6)]) hx hb dL_law_429 hl (k := 7) rfl (congrArg (fun z => v7 + z) (by decide)) (by decide) rfl (fun ls hl => ?_)
    refine lv_goto (tgt := 46) hx hb dL_law_432 (by decide) ?_
    exact hr aO fO aX fX a_text H locs ls (hD.fst rfl) hP hS (lv_sub hl [2, 3, 4, 5, 6, 1, 7, 0] rfl)
  refine lv_if_lt (tgt := 425) hx hb dL_law_418 (by decide) (fun c_56 => ?_) (fun c_56 => ?_)
  · refine lv_iconst (v := (0 : Int32)) hx hb dL_law_425 (by decide) ?_
    exact hJ_54 _ (if_neg (fun h => h c_56)).symm ls (lv_sub hl [1, 2, 3, 4, 0, 6, 7] rfl)
  · refine lv_iconst (v := (1 : Int32)) hx hb dL_law_421 (by decide) ?_
    refine lv_goto (tgt := 426) hx hb dL_law_422 (by decide) ?_
    exact hJ_54 _ (if_pos c_56).symm ls (lv_sub hl [1, 2, 3, 4, 0, 6, 7] rfl)
