/-! the law's blocks -/
set_option maxHeartbeats 8000000 in
set_option maxRecDepth 100000 in
theorem blk_536 {p : Program} {l : Launch} {e : Env} {s : State} {m : MethodId} {below : List Frame} {meth : Method} {c : Code} {dC : Nat → ClassId} {dI : Nat → Nat → Nat} {cI : ClassId} {cJ : ClassId} {b : Nat} {L : Nat} {xs : Nat → Int32} (C : LC p s m meth c dC dI cI cJ b L xs) (o_now_marks_numbers : Nat → Int32) (o_now_marks_size : Int32) (o_now_p : Int32) (o_now_e : Int32) (o_now_modulus : Int32) (o_now_windowRow : Int32) (o_now_windowPlace : Int32) (o_reader_text : Nat → Int32) (o_reader_length : Int32) (x_now_marks_numbers : Nat → Int32) (x_now_marks_size : Int32) (x_now_p : Int32) (x_now_e : Int32) (x_now_modulus : Int32) (x_now_windowRow : Int32) (x_now_windowPlace : Int32) (text : Nat → Int32) (v4 : Int32) (v5 : Int32) (v9 : Int32) (hr : wp_536 (WW_536 p l e s m below meth c dC dI cI cJ b) (WW_566 p l e s m below meth c dC dI cI cJ b) L xs o_now_marks_numbers o_now_marks_size o_now_p o_now_e o_now_modulus o_now_windowRow o_now_windowPlace o_reader_text o_reader_length x_now_marks_numbers x_now_marks_size x_now_p x_now_e x_now_modulus x_now_windowRow x_now_windowPlace text v4 v5 v9) : WW_536 p l e s m below meth c dC dI cI cJ b o_now_marks_numbers o_now_marks_size o_now_p o_now_e o_now_modulus o_now_windowRow o_now_windowPlace o_reader_text o_reader_length x_now_marks_numbers x_now_marks_size x_now_p x_now_e x_now_modulus x_now_windowRow x_now_windowPlace text v4 v5 v9 := by
  obtain ⟨hx, hb, hrt, hml, hown, hts, hX, hbl, hlocks, hE⟩ := C
  have hK := hE.1
  have hA : ∀ q : Nat, s.heap.size ≤ q → (fun q : Nat => s.heap.size ≤ q) q := fun _ h => h
  have hbA : ¬ (fun q : Nat => s.heap.size ≤ q) b := Nat.not_le.mpr hbl
  intro aO fO aX fX a_text a_was a_sa o_reader_next o_reader_clauses_numbers o_reader_clauses_size was sa H locs ls hD hP hS hl
  unfold wp_536 at hr
  refine lv_iload hx hb dL_law_536 (lv_at hl 6 rfl) ?_
  refine lv_iload hx hb dL_law_538 (lv_at hl 4 rfl) ?_
  refine lv_icmp_ge (tgt := 566) hx hb dL_law_540 (by decide) (fun c_1 => ?_) (fun c_1 => ?_)
  · have hr := pite_p hr c_1
    exact hr aO fO aX fX a_text a_was a_sa o_reader_next o_reader_clauses_numbers o_reader_clauses_size text was sa H locs ls (hD.fst rfl) hP hS (lv_sub hl [0, 1, 2, 5] rfl)
  · have hr := pite_n hr c_1
    refine lv_aload_n hx hb dL_law_543 rfl (lv_at hl 1 rfl) ?_
    refine lv_aload_n hx hb dL_law_544 rfl (lv_at hl 3 rfl) ?_
    refine lv_iload hx hb dL_law_545 (lv_at hl 6 rfl) ?_
    obtain ⟨g_2, eg_2, hg_2, hr⟩ := prd_e hr
    refine va_iald hx hb hK hP 76 0 rfl rfl hg_2 dL_law_547 ?_
    refine tp_ eg_2 ?_
    obtain ⟨u_3, hu_3, hr⟩ := pbd_e hr
    refine mu_X ⟨hx, hb, hml, hown, hts⟩ (k_X6_feed l dC dI cI cJ aO (fO 0) (fO 2) (fO 11) (fO 20) (fO 29) (fO 33) (fO 30) (fO 31) g_2 (0 : Int32) o_reader_length o_reader_next o_reader_text H.size u_3 hu_3) (cwV 1 hts gL_law_X6_feed rfl rfl rfl (by decide +kernel) ⟨(Nat.le_of_ble_eq_true rfl), (Nat.le_of_ble_eq_true rfl)⟩) hE 0 rfl rfl rfl rfl hl.1 rfl (Nat.le_of_ble_eq_true rfl) dL_law_548 ⟨(Nat.le_of_ble_eq_true rfl), (Nat.le_of_ble_eq_true rfl)⟩ hP (hD.fst rfl) hS hA [true, false, false, false, false, false, false, false, false, false, false, false, false, false, false, false, false, false, false, false, false, false, false, false, false, false, false, false, false, false, true, true] rfl (W1 := (wo cI cJ aO fO (0 : Int32) h6 o_now_p o_now_e o_now_modulus o_now_windowRow o_now_windowPlace o_now_marks_size o_now_marks_numbers (0 : Int32) (fun _ => (0 : Int32)) (0 : Int32) (fun _ => (0 : Int32)) (0 : Int32) (fun _ => (0 : Int32)) (2 : Int32) (1 : Int32) (2 : Int32) (0 : Int32) (0 : Int32) (0 : Int32) (fun _ => (0 : Int32)) (0 : Int32) (fun _ => (0 : Int32)) (0 : Int32) (fun _ => (0 : Int32)) (0 : Int32) (fun _ => (0 : Int32)) (2 : Int32) (1 : Int32) (2 : Int32) (0 : Int32) (0 : Int32) (0 : Int32) (fun _ => (0 : Int32)) (0 : Int32) (fun _ => (0 : Int32)) (0 : Int32) (fun _ => (0 : Int32)) (0 : Int32) (fun _ => (0 : Int32)) u_3.2.2 o_reader_next u_3.2.1 o_reader_clauses_size o_reader_clauses_numbers so6 (fun _ => (0 : Int32)) (fun _ => (0 : Int64)) (wo cI cJ aX fX (0 : Int32) h6 x_now_p x_now_e x_now_modulus x_now_windowRow x_now_windowPlace x_now_marks_size x_now_marks_numbers (0 : Int32) (fun _ => (0 : Int32)) (0 : Int32) (fun _ => (0 : Int32)) (0 : Int32) (fun _ => (0 : Int32)) (2 : Int32) (1 : Int32) (2 : Int32) (0 : Int32) (0 : Int32) (0 : Int32) (fun _ => (0 : Int32)) (0 : Int32) (fun _ => (0 : Int32)) (0 : Int32) (fun _ => (0 : Int32)) (0 : Int32) (fun _ => (0 : Int32)) (2 : Int32) (1 : Int32) (2 : Int32) (0 : Int32) (0 : Int32) (0 : Int32) (fun _ => (0 : Int32)) (0 : Int32) (fun _ => (0 : Int32)) (0 : Int32) (fun _ => (0 : Int32)) (0 : Int32) (fun _ => (0 : Int32)) (0 : Int32) (0 : Int32) (fun _ => (0 : Int32)) (0 : Int32) (fun _ => (0 : Int32)) so6 (fun _ => (0 : Int32)) (fun _ => (0 : Int64)) [(a_text, .inl (cI, 120, .inl text)), (a_was, .inl (cI, 20, .inl was)), (a_sa, .inl (cI, 20, .inl sa))]))) rfl (fun H locs hP hS => W.eq (g2 := F0 m 551 ls [.int u_3.1]) rfl ?_)
    refine lv_iload hx hb dL_law_551 (lv_at hl 6 rfl) ?_
    refine lv_iconst (v := (1 : Int32)) hx hb dL_law_553 (by decide) ?_
    refine lv_iadd hx hb dL_law_554 ?_
    refine lv_icmp_eq (tgt := 560) hx hb dL_law_555 (by decide) (fun c_4 => ?_) (fun c_4 => ?_)
    · have hr := pite_p hr c_4
      refine lv_iinc (v := (v9 + (1 : Int32))) (lv' := [(9, .int (v9 + (1 : Int32))), (0, .ref b), (1, .ref aO), (2, .ref aX), (3, .ref a_text), (4, .int v4), (5, .int v5)]) hx hb dL_law_560 hl (k := 6) rfl (congrArg (fun z => v9 + z) (by decide)) (by decide) rfl (fun ls hl => ?_)
      refine lv_goto (tgt := 536) hx hb dL_law_563 (by decide) ?_
      exact hr aO fO aX fX a_text a_was a_sa o_reader_next o_reader_clauses_numbers o_reader_clauses_size was sa H locs ls (hD.fst rfl) hP hS (lv_sub hl [1, 2, 3, 4, 5, 6, 0] rfl)
    · have hr := pite_n hr c_4
      refine lv_iconst (v := (0 : Int32)) hx hb dL_law_558 (by decide) ?_
      refine tp_ hr.symm ?_
      refine W.widen (k := 600000) (n := 7302250) (Nat.le_of_ble_eq_true rfl) (Nat.le_of_ble_eq_true rfl) ?_
      exact va_forget (fun q hq => hS.2.2 q hq) (lw_ret hx hb hrt hlocks dL_law_559)
set_option maxHeartbeats 8000000 in
set_option maxRecDepth 100000 in
theorem blk_566 {p : Program} {l : Launch} {e : Env} {s : State} {m : MethodId} {below : List Frame} {meth : Method} {c : Code} {dC : Nat → ClassId} {dI : Nat → Nat → Nat} {cI : ClassId} {cJ : ClassId} {b : Nat} {L : Nat} {xs : Nat → Int32} (C : LC p s m meth c dC dI cI cJ b L xs) (o_now_marks_numbers : Nat → Int32) (o_now_marks_size : Int32) (o_now_p : Int32) (o_now_e : Int32) (o_now_modulus : Int32) (o_now_windowRow : Int32) (o_now_windowPlace : Int32) (o_reader_text : Nat → Int32) (o_reader_length : Int32) (x_now_marks_numbers : Nat → Int32) (x_now_marks_size : Int32) (x_now_p : Int32) (x_now_e : Int32) (x_now_modulus : Int32) (x_now_windowRow : Int32) (x_now_windowPlace : Int32) (v5 : Int32) (hr : wp_566 (WW_591 p l e s m below meth c dC dI cI cJ b) L xs o_now_marks_numbers o_now_marks_size o_now_p o_now_e o_now_modulus o_now_windowRow o_now_windowPlace o_reader_text o_reader_length x_now_marks_numbers x_now_marks_size x_now_p x_now_e x_now_modulus x_now_windowRow x_now_windowPlace v5) : WW_566 p l e s m below meth c dC dI cI cJ b o_now_marks_numbers o_now_marks_size o_now_p o_now_e o_now_modulus o_now_windowRow o_now_windowPlace o_reader_text o_reader_length x_now_marks_numbers x_now_marks_size x_now_p x_now_e x_now_modulus x_now_windowRow x_now_windowPlace v5 := by
  obtain ⟨hx, hb, hrt, hml, hown, hts, hX, hbl, hlocks, hE⟩ := C
  have hK := hE.1
  have hA : ∀ q : Nat, s.heap.size ≤ q → (fun q : Nat => s.heap.size ≤ q) q := fun _ h => h
  have hbA : ¬ (fun q : Nat => s.heap.size ≤ q) b := Nat.not_le.mpr hbl
  intro aO fO aX fX a_text a_was a_sa o_reader_next o_reader_clauses_numbers o_reader_clauses_size text was sa H locs ls hD hP hS hl
  unfold wp_566 at hr
  have hr := hr o_reader_next o_reader_clauses_numbers o_reader_clauses_size
  refine lv_aload_n hx hb dL_law_566 rfl (lv_at hl 1 rfl) ?_
  obtain ⟨u_1, hu_1, hr⟩ := pbd_e hr
  refine mu_X ⟨hx, hb, hml, hown, hts⟩ (k_X6_read l dC dI cI cJ aO (fO 0) (fO 2) (fO 11) (fO 20) (fO 29) (fO 33) (fO 3) (fO 5) (fO 7) (fO 9) (fO 4) (fO 30) (fO 31) (fO 32) (0 : Int32) o_now_p o_now_e o_now_modulus o_now_windowRow o_now_windowPlace o_now_marks_size o_now_marks_numbers o_reader_length o_reader_next o_reader_text o_reader_clauses_size o_reader_clauses_numbers H.size u_1 hu_1) (cwV 0 hts gL_law_X6_read rfl rfl rfl (by decide +kernel) ⟨(Nat.le_of_ble_eq_true rfl), (Nat.le_of_ble_eq_true rfl)⟩) hE 0 rfl rfl rfl rfl hl.1 rfl (Nat.le_of_ble_eq_true rfl) dL_law_567 ⟨(Nat.le_of_ble_eq_true rfl), (Nat.le_of_ble_eq_true rfl)⟩ hP (hD.fst rfl) hS hA [true, false, false, true, true, true, false, false, false, false, false, false, false, false, false, false, false, false, false, false, false, false, false, false, false, false, false, false, false, false, true, true, true, true] rfl (W1 := (wo cI cJ aO fO (0 : Int32) h6 u_1.2.2.2.1 u_1.2.2.2.2.1 u_1.2.2.2.2.2.1 u_1.2.2.2.2.2.2.1 u_1.2.2.2.2.2.2.2.1 u_1.2.2.1 u_1.2.1 (0 : Int32) (fun _ => (0 : Int32)) (0 : Int32) (fun _ => (0 : Int32)) (0 : Int32) (fun _ => (0 : Int32)) (2 : Int32) (1 : Int32) (2 : Int32) (0 : Int32) (0 : Int32) (0 : Int32) (fun _ => (0 : Int32)) (0 : Int32) (fun _ => (0 : Int32)) (0 : Int32) (fun _ => (0 : Int32)) (0 : Int32) (fun _ => (0 : Int32)) (2 : Int32) (1 : Int32) (2 : Int32) (0 : Int32) (0 : Int32) (0 : Int32) (fun _ => (0 : Int32)) (0 : Int32) (fun _ => (0 : Int32)) (0 : Int32) (fun _ => (0 : Int32)) (0 : Int32) (fun _ => (0 : Int32)) u_1.2.2.2.2.2.2.2.2.2.2.1 u_1.2.2.2.2.2.2.2.2.2.2.2 o_reader_text u_1.2.2.2.2.2.2.2.2.2.1 u_1.2.2.2.2.2.2.2.2.1 so6 (fun _ => (0 : Int32)) (fun _ => (0 : Int64)) (wo cI cJ aX fX (0 : Int32) h6 x_now_p x_now_e x_now_modulus x_now_windowRow x_now_windowPlace x_now_marks_size x_now_marks_numbers (0 : Int32) (fun _ => (0 : Int32)) (0 : Int32) (fun _ => (0 : Int32)) (0 : Int32) (fun _ => (0 : Int32)) (2 : Int32) (1 : Int32) (2 : Int32) (0 : Int32) (0 : Int32) (0 : Int32) (fun _ => (0 : Int32)) (0 : Int32) (fun _ => (0 : Int32)) (0 : Int32) (fun _ => (0 : Int32)) (0 : Int32) (fun _ => (0 : Int32)) (2 : Int32) (1 : Int32) (2 : Int32) (0 : Int32) (0 : Int32) (0 : Int32) (fun _ => (0 : Int32)) (0 : Int32) (fun _ => (0 : Int32)) (0 : Int32) (fun _ => (0 : Int32)) (0 : Int32) (fun _ => (0 : Int32)) (0 : Int32) (0 : Int32) (fun _ => (0 : Int32)) (0 : Int32) (fun _ => (0 : Int32)) so6 (fun _ => (0 : Int32)) (fun _ => (0 : Int64)) [(a_text, .inl (cI, 120, .inl text)), (a_was, .inl (cI, 20, .inl was)), (a_sa, .inl (cI, 20, .inl sa))]))) rfl (fun H locs hP hS => W.eq (g2 := F0 m 570 ls [.int u_1.1]) rfl ?_)
  refine lv_iload hx hb dL_law_570 (lv_at hl 3 rfl) ?_
  refine lv_icmp_ne (tgt := 589) hx hb dL_law_572 (by decide) (fun c_2 => ?_) (fun c_2 => ?_)
  · have hr := pite_n hr c_2
    refine lv_iconst (v := (0 : Int32)) hx hb dL_law_589 (by decide) ?_
    refine tp_ hr.symm ?_
    refine W.widen (k := 600000) (n := 7302250) (Nat.le_of_ble_eq_true rfl) (Nat.le_of_ble_eq_true rfl) ?_
    exact va_forget (fun q hq => hS.2.2 q hq) (lw_ret hx hb hrt hlocks dL_law_590)
  · have hr := pite_p hr c_2
    refine lv_aload_n hx hb dL_law_575 rfl (lv_at hl 1 rfl) ?_
    obtain ⟨u_3, hu_3, hr⟩ := pbd_e hr
    refine nr_S (x := fun a => (a, .inl (cI, 20, .inl u_3))) (fun _ => rfl) ⟨hx, hb, hml, hown, hts⟩ (k_L_state l dC dI cI cJ aO (fO 0) (fO 2) (fO 11) (fO 20) (fO 29) (fO 33) (fO 1) (fO 3) (fO 5) (fO 7) (fO 9) (fO 4) (0 : Int32) h6 u_1.2.2.2.1 u_1.2.2.2.2.1 u_1.2.2.2.2.2.1 u_1.2.2.2.2.2.2.1 u_1.2.2.2.2.2.2.2.1 u_1.2.2.1 u_1.2.1 H.size u_3 hu_3) (va_cwS 1 hts gL_law_L_state rfl rfl rfl (by decide +kernel) ⟨(Nat.le_of_ble_eq_true rfl), (Nat.le_of_ble_eq_true rfl)⟩) hE rfl hl.1 rfl (Nat.le_of_ble_eq_true rfl) dL_law_576 ⟨(Nat.le_of_ble_eq_true rfl), (Nat.le_of_ble_eq_true rfl)⟩ hP (hD.fst rfl) hS hA [true, true, true, true, true, true] rfl (fun a_sb H locs hP hD hS => ?_)
    have hP : va_P (dC, dI) vwCl (wo cI cJ aO fO (0 : Int32) h6 u_1.2.2.2.1 u_1.2.2.2.2.1 u_1.2.2.2.2.2.1 u_1.2.2.2.2.2.2.1 u_1.2.2.2.2.2.2.2.1 u_1.2.2.1 u_1.2.1 (0 : Int32) (fun _ => (0 : Int32)) (0 : Int32) (fun _ => (0 : Int32)) (0 : Int32) (fun _ => (0 : Int32)) (2 : Int32) (1 : Int32) (2 : Int32) (0 : Int32) (0 : Int32) (0 : Int32) (fun _ => (0 : Int32)) (0 : Int32) (fun _ => (0 : Int32)) (0 : Int32) (fun _ => (0 : Int32)) (0 : Int32) (fun _ => (0 : Int32)) (2 : Int32) (1 : Int32) (2 : Int32) (0 : Int32) (0 : Int32) (0 : Int32) (fun _ => (0 : Int32)) (0 : Int32) (fun _ => (0 : Int32)) (0 : Int32) (fun _ => (0 : Int32)) (0 : Int32) (fun _ => (0 : Int32)) u_1.2.2.2.2.2.2.2.2.2.2.1 u_1.2.2.2.2.2.2.2.2.2.2.2 o_reader_text u_1.2.2.2.2.2.2.2.2.2.1 u_1.2.2.2.2.2.2.2.2.1 so6 (fun _ => (0 : Int32)) (fun _ => (0 : Int64)) (wo cI cJ aX fX (0 : Int32) h6 x_now_p x_now_e x_now_modulus x_now_windowRow x_now_windowPlace x_now_marks_size x_now_marks_numbers (0 : Int32) (fun _ => (0 : Int32)) (0 : Int32) (fun _ => (0 : Int32)) (0 : Int32) (fun _ => (0 : Int32)) (2 : Int32) (1 : Int32) (2 : Int32) (0 : Int32) (0 : Int32) (0 : Int32) (fun _ => (0 : Int32)) (0 : Int32) (fun _ => (0 : Int32)) (0 : Int32) (fun _ => (0 : Int32)) (0 : Int32) (fun _ => (0 : Int32)) (2 : Int32) (1 : Int32) (2 : Int32) (0 : Int32) (0 : Int32) (0 : Int32) (fun _ => (0 : Int32)) (0 : Int32) (fun _ => (0 : Int32)) (0 : Int32) (fun _ => (0 : Int32)) (0 : Int32) (fun _ => (0 : Int32)) (0 : Int32) (0 : Int32) (fun _ => (0 : Int32)) (0 : Int32) (fun _ => (0 : Int32)) so6 (fun _ => (0 : Int32)) (fun _ => (0 : Int64)) [(a_text, .inl (cI, 120, .inl text)), (a_was, .inl (cI, 20, .inl was)), (a_sa, .inl (cI, 20, .inl sa)), (a_sb, .inl (cI, 20, .inl u_3))])) H := hP
    have hD : va_D (fun q : Nat => s.heap.size ≤ q) (wo cI cJ aO fO (0 : Int32) h6 u_1.2.2.2.1 u_1.2.2.2.2.1 u_1.2.2.2.2.2.1 u_1.2.2.2.2.2.2.1 u_1.2.2.2.2.2.2.2.1 u_1.2.2.1 u_1.2.1 (0 : Int32) (fun _ => (0 : Int32)) (0 : Int32) (fun _ => (0 : Int32)) (0 : Int32) (fun _ => (0 : Int32)) (2 : Int32) (1 : Int32) (2 : Int32) (0 : Int32) (0 : Int32) (0 : Int32) (fun _ => (0 : Int32)) (0 : Int32) (fun _ => (0 : Int32)) (0 : Int32) (fun _ => (0 : Int32)) (0 : Int32) (fun _ => (0 : Int32)) (2 : Int32) (1 : Int32) (2 : Int32) (0 : Int32) (0 : Int32) (0 : Int32) (fun _ => (0 : Int32)) (0 : Int32) (fun _ => (0 : Int32)) (0 : Int32) (fun _ => (0 : Int32)) (0 : Int32) (fun _ => (0 : Int32)) u_1.2.2.2.2.2.2.2.2.2.2.1 u_1.2.2.2.2.2.2.2.2.2.2.2 o_reader_text u_1.2.2.2.2.2.2.2.2.2.1 u_1.2.2.2.2.2.2.2.2.1 so6 (fun _ => (0 : Int32)) (fun _ => (0 : Int64)) (wo cI cJ aX fX (0 : Int32) h6 x_now_p x_now_e x_now_modulus x_now_windowRow x_now_windowPlace x_now_marks_size x_now_marks_numbers (0 : Int32) (fun _ => (0 : Int32)) (0 : Int32) (fun _ => (0 : Int32)) (0 : Int32) (fun _ => (0 : Int32)) (2 : Int32) (1 : Int32) (2 : Int32) (0 : Int32) (0 : Int32) (0 : Int32) (fun _ => (0 : Int32)) (0 : Int32) (fun _ => (0 : Int32)) (0 : Int32) (fun _ => (0 : Int32)) (0 : Int32) (fun _ => (0 : Int32)) (2 : Int32) (1 : Int32) (2 : Int32) (0 : Int32) (0 : Int32) (0 : Int32) (fun _ => (0 : Int32)) (0 : Int32) (fun _ => (0 : Int32)) (0 : Int32) (fun _ => (0 : Int32)) (0 : Int32) (fun _ => (0 : Int32)) (0 : Int32) (0 : Int32) (fun _ => (0 : Int32)) (0 : Int32) (fun _ => (0 : Int32)) so6 (fun _ => (0 : Int32)) (fun _ => (0 : Int64)) [(a_text, .inl (cI, 120, .inl text)), (a_was, .inl (cI, 20, .inl was)), (a_sa, .inl (cI, 20, .inl sa)), (a_sb, .inl (cI, 20, .inl u_3))])) := hD.fst rfl
    refine W.widen (k := 80) (n := 10126) (Nat.le_of_ble_eq_true rfl) (Nat.le_of_ble_eq_true rfl) ?_
    refine lv_aload_n hx hb dL_law_579 rfl (lv_at hl 2 rfl) ?_
    obtain ⟨u_4, hu_4, hr⟩ := pbd_e hr
    refine nr_S (x := fun a => (a, .inl (cI, 20, .inl u_4))) (fun _ => rfl) ⟨hx, hb, hml, hown, hts⟩ (k_L_state l dC dI cI cJ aX (fX 0) (fX 2) (fX 11) (fX 20) (fX 29) (fX 33) (fX 1) (fX 3) (fX 5) (fX 7) (fX 9) (fX 4) (0 : Int32) h6 x_now_p x_now_e x_now_modulus x_now_windowRow x_now_windowPlace x_now_marks_size x_now_marks_numbers H.size u_4 hu_4) (va_cwS 1 hts gL_law_L_state rfl rfl rfl (by decide +kernel) ⟨(Nat.le_of_ble_eq_true rfl), (Nat.le_of_ble_eq_true rfl)⟩) hE rfl hl.1 rfl (Nat.le_of_ble_eq_true rfl) dL_law_580 ⟨(Nat.le_of_ble_eq_true rfl), (Nat.le_of_ble_eq_true rfl)⟩ hP (hD.fst rfl) hS hA [false, false, false, false, false, false, false, false, false, false, false, false, false, false, false, false, false, false, false, false, false, false, false, false, false, false, false, false, false, false, false, false, false, false, false, false, false, false, true, true, true, true, true, true] rfl (fun a_sc H locs hP hD hS => ?_)
    have hP : va_P (dC, dI) vwCl (wo cI cJ aO fO (0 : Int32) h6 u_1.2.2.2.1 u_1.2.2.2.2.1 u_1.2.2.2.2.2.1 u_1.2.2.2.2.2.2.1 u_1.2.2.2.2.2.2.2.1 u_1.2.2.1 u_1.2.1 (0 : Int32) (fun _ => (0 : Int32)) (0 : Int32) (fun _ => (0 : Int32)) (0 : Int32) (fun _ => (0 : Int32)) (2 : Int32) (1 : Int32) (2 : Int32) (0 : Int32) (0 : Int32) (0 : Int32) (fun _ => (0 : Int32)) (0 : Int32) (fun _ => (0 : Int32)) (0 : Int32) (fun _ => (0 : Int32)) (0 : Int32) (fun _ => (0 : Int32)) (2 : Int32) (1 : Int32) (2 : Int32) (0 : Int32) (0 : Int32) (0 : Int32) (fun _ => (0 : Int32)) (0 : Int32) (fun _ => (0 : Int32)) (0 : Int32) (fun _ => (0 : Int32)) (0 : Int32) (fun _ => (0 : Int32)) u_1.2.2.2.2.2.2.2.2.2.2.1 u_1.2.2.2.2.2.2.2.2.2.2.2 o_reader_text u_1.2.2.2.2.2.2.2.2.2.1 u_1.2.2.2.2.2.2.2.2.1 so6 (fun _ => (0 : Int32)) (fun _ => (0 : Int64)) (wo cI cJ aX fX (0 : Int32) h6 x_now_p x_now_e x_now_modulus x_now_windowRow x_now_windowPlace x_now_marks_size x_now_marks_numbers (0 : Int32) (fun _ => (0 : Int32)) (0 : Int32) (fun _ => (0 : Int32)) (0 : Int32) (fun _ => (0 : Int32)) (2 : Int32) (1 : Int32) (2 : Int32) (0 : Int32) (0 : Int32) (0 : Int32) (fun _ => (0 : Int32)) (0 : Int32) (fun _ => (0 : Int32)) (0 : Int32) (fun _ => (0 : Int32)) (0 : Int32) (fun _ => (0 : Int32)) (2 : Int32) (1 : Int32) (2 : Int32) (0 : Int32) (0 : Int32) (0 : Int32) (fun _ => (0 : Int32)) (0 : Int32) (fun _ => (0 : Int32)) (0 : Int32) (fun _ => (0 : Int32)) (0 : Int32) (fun _ => (0 : Int32)) (0 : Int32) (0 : Int32) (fun _ => (0 : Int32)) (0 : Int32) (fun _ => (0 : Int32)) so6 (fun _ => (0 : Int32)) (fun _ => (0 : Int64)) [(a_text, .inl (cI, 120, .inl text)), (a_was, .inl (cI, 20, .inl was)), (a_sa, .inl (cI, 20, .inl sa)), (a_sb, .inl (cI, 20, .inl u_3)), (a_sc, .inl (cI, 20, .inl u_4))])) H := hP
    have hD : va_D (fun q : Nat => s.heap.size ≤ q) (wo cI cJ aO fO (0 : Int32) h6 u_1.2.2.2.1 u_1.2.2.2.2.1 u_1.2.2.2.2.2.1 u_1.2.2.2.2.2.2.1 u_1.2.2.2.2.2.2.2.1 u_1.2.2.1 u_1.2.1 (0 : Int32) (fun _ => (0 : Int32)) (0 : Int32) (fun _ => (0 : Int32)) (0 : Int32) (fun _ => (0 : Int32)) (2 : Int32) (1 : Int32) (2 : Int32) (0 : Int32) (0 : Int32) (0 : Int32) (fun _ => (0 : Int32)) (0 : Int32) (fun _ => (0 : Int32)) (0 : Int32) (fun _ => (0 : Int32)) (0 : Int32) (fun _ => (0 : Int32)) (2 : Int32) (1 : Int32) (2 : Int32) (0 : Int32) (0 : Int32) (0 : Int32) (fun _ => (0 : Int32)) (0 : Int32) (fun _ => (0 : Int32)) (0 : Int32) (fun _ => (0 : Int32)) (0 : Int32) (fun _ => (0 : Int32)) u_1.2.2.2.2.2.2.2.2.2.2.1 u_1.2.2.2.2.2.2.2.2.2.2.2 o_reader_text u_1.2.2.2.2.2.2.2.2.2.1 u_1.2.2.2.2.2.2.2.2.1 so6 (fun _ => (0 : Int32)) (fun _ => (0 : Int64)) (wo cI cJ aX fX (0 : Int32) h6 x_now_p x_now_e x_now_modulus x_now_windowRow x_now_windowPlace x_now_marks_size x_now_marks_numbers (0 : Int32) (fun _ => (0 : Int32)) (0 : Int32) (fun _ => (0 : Int32)) (0 : Int32) (fun _ => (0 : Int32)) (2 : Int32) (1 : Int32) (2 : Int32) (0 : Int32) (0 : Int32) (0 : Int32) (fun _ => (0 : Int32)) (0 : Int32) (fun _ => (0 : Int32)) (0 : Int32) (fun _ => (0 : Int32)) (0 : Int32) (fun _ => (0 : Int32)) (2 : Int32) (1 : Int32) (2 : Int32) (0 : Int32) (0 : Int32) (0 : Int32) (fun _ => (0 : Int32)) (0 : Int32) (fun _ => (0 : Int32)) (0 : Int32) (fun _ => (0 : Int32)) (0 : Int32) (fun _ => (0 : Int32)) (0 : Int32) (0 : Int32) (fun _ => (0 : Int32)) (0 : Int32) (fun _ => (0 : Int32)) so6 (fun _ => (0 : Int32)) (fun _ => (0 : Int64)) [(a_text, .inl (cI, 120, .inl text)), (a_was, .inl (cI, 20, .inl was)), (a_sa, .inl (cI, 20, .inl sa)), (a_sb, .inl (cI, 20, .inl u_3)), (a_sc, .inl (cI, 20, .inl u_4))])) := hD.fst rfl
    refine W.widen (k := 81) (n := 10146) (Nat.le_of_ble_eq_true rfl) (Nat.le_of_ble_eq_true rfl) ?_
    obtain ⟨u_5, hu_5, hr⟩ := pbd_e hr
    refine ro_S ⟨hx, hb, hml, hown, hts⟩ (k_L_areSame l dC dI cI cJ a_sb a_sc 20 20 u_3 u_4 u_5 hu_5) (va_cwS 2 hts gL_law_L_areSame rfl rfl rfl (by decide +kernel) ⟨(Nat.le_of_ble_eq_true rfl), (Nat.le_of_ble_eq_true rfl)⟩) hE (hP.sub [79, 80] rfl) rfl hl.1 rfl (Nat.le_of_ble_eq_true rfl) dL_law_583 ⟨(Nat.le_of_ble_eq_true rfl), (Nat.le_of_ble_eq_true rfl)⟩ ?_
    refine lv_if_ne (tgt := 591) hx hb dL_law_586 (by decide) (fun c_6 => ?_) (fun c_6 => ?_)
    · have hr := pite_n hr c_6
      exact hr aO fO aX fX a_text a_was a_sa a_sb a_sc o_reader_text u_1.2.2.2.2.2.2.2.2.2.2.1 u_1.2.2.2.2.2.2.2.2.2.2.2 u_1.2.2.2.2.2.2.2.2.1 u_1.2.2.2.2.2.2.2.2.2.1 x_now_marks_numbers x_now_marks_size x_now_p x_now_e x_now_modulus x_now_windowRow x_now_windowPlace text was sa u_3 u_4 H locs ls (hD.fst rfl) hP hS (lv_sub hl [0, 1] rfl)
    · have hr := pite_p hr c_6
      refine lv_iconst (v := (0 : Int32)) hx hb dL_law_589 (by decide) ?_
      refine tp_ hr.symm ?_
      refine W.widen (k := 600000) (n := 7302250) (Nat.le_of_ble_eq_true rfl) (Nat.le_of_ble_eq_true rfl) ?_
      exact va_forget (fun q hq => hS.2.2 q hq) (lw_ret hx hb hrt hlocks dL_law_590)
set_option maxHeartbeats 8000000 in
set_option maxRecDepth 100000 in
theorem blk_591 {p : Program} {l : Launch} {e : Env} {s : State} {m : MethodId} {below : List Frame} {meth : Method} {c : Code} {dC : Nat → ClassId} {dI : Nat → Nat → Nat} {cI : ClassId} {cJ : ClassId} {b : Nat} {L : Nat} {xs : Nat → Int32} (C : LC p s m meth c dC dI cI cJ b L xs) (o_now_marks_numbers : Nat → Int32) (o_now_marks_size : Int32) (o_now_p : Int32) (o_now_e : Int32) (o_now_modulus : Int32) (o_now_windowRow : Int32) (o_now_windowPlace : Int32) (hr : wp_591 (WW_608 p l e s m below meth c dC dI cI cJ b) L xs o_now_marks_numbers o_now_marks_size o_now_p o_now_e o_now_modulus o_now_windowRow o_now_windowPlace) : WW_591 p l e s m below meth c dC dI cI cJ b o_now_marks_numbers o_now_marks_size o_now_p o_now_e o_now_modulus o_now_windowRow o_now_windowPlace := by
  obtain ⟨hx, hb, hrt, hml, hown, hts, hX, hbl, hlocks, hE⟩ := C
  have hK := hE.1
  have hA : ∀ q : Nat, s.heap.size ≤ q → (fun q : Nat => s.heap.size ≤ q) q := fun _ h => h
  have hbA : ¬ (fun q : Nat => s.heap.size ≤ q) b := Nat.not_le.mpr hbl
  intro aO fO aX fX a_text a_was a_sa a_sb a_sc o_reader_text o_reader_length o_reader_next o_reader_clauses_numbers o_reader_clauses_size x_now_marks_numbers x_now_marks_size x_now_p x_now_e x_now_modulus x_now_windowRow x_now_windowPlace text was sa sb sc H locs ls hD hP hS hl
  unfold wp_591 at hr
  refine lv_aload_n hx hb dL_law_591 rfl (lv_at hl 0 rfl) ?_
  refine lv_bipush (v := (121 : Int32)) hx hb dL_law_592 (by decide) ?_
  obtain ⟨u_1, hu_1, hr⟩ := pbd_e hr
  refine ro_SXc ⟨hx, hb, hml, hown, hts⟩ (k_L_cell l dC dI cI cJ b (121 : Int32) L xs u_1 hu_1) (va_cwS 2 hts gL_law_L_cell rfl rfl rfl (by decide +kernel) ⟨(Nat.le_of_ble_eq_true rfl), (Nat.le_of_ble_eq_true rfl)⟩) hE (va_X_at hX hbl hbA hS) rfl hl.1 rfl (Nat.le_of_ble_eq_true rfl) dL_law_594 ⟨(Nat.le_of_ble_eq_true rfl), (Nat.le_of_ble_eq_true rfl)⟩ ?_
  refine lv_bipush (v := (31 : Int32)) hx hb dL_law_597 (by decide) ?_
  refine lv_iand hx hb dL_law_599 ?_
  refine lv_bipush (v := (9 : Int32)) hx hb dL_law_600 (by decide) ?_
  obtain ⟨d_2, ed_2, hd_2, hr⟩ := pmd_e hr
  refine lv_irem hx hb dL_law_602 hd_2 ?_
  refine tp_ ed_2 ?_
  refine lv_istore (lv' := [(9, .int d_2), (0, .ref b), (1, .ref aO)]) hx hb dL_law_603 hl (by decide) rfl (fun ls hl => ?_)
  refine lv_iconst (v := (0 : Int32)) hx hb dL_law_605 (by decide) ?_
  refine lv_istore (lv' := [(10, .int (0 : Int32)), (9, .int d_2), (0, .ref b), (1, .ref aO)]) hx hb dL_law_606 hl (by decide) rfl (fun ls hl => ?_)
  exact hr aO fO aX fX a_text a_was a_sa a_sb a_sc o_reader_text o_reader_length o_reader_next o_reader_clauses_numbers o_reader_clauses_size x_now_marks_numbers x_now_marks_size x_now_p x_now_e x_now_modulus x_now_windowRow x_now_windowPlace text was sa sb sc H locs ls (hD.fst rfl) hP hS (lv_sub hl [2, 3, 1, 0] rfl)
set_option maxHeartbeats 8000000 in
set_option maxRecDepth 100000 in
theorem blk_608 {p : Program} {l : Launch} {e : Env} {s : State} {m : MethodId} {below : List Frame} {meth : Method} {c : Code} {dC : Nat → ClassId} {dI : Nat → Nat → Nat} {cI : ClassId} {cJ : ClassId} {b : Nat} {L : Nat} {xs : Nat → Int32} (C : LC p s m meth c dC dI cI cJ b L xs) (o_now_marks_numbers : Nat → Int32) (o_now_marks_size : Int32) (o_now_p : Int32) (o_now_e : Int32) (o_now_modulus : Int32) (o_now_windowRow : Int32) (o_now_windowPlace : Int32) (o_now_events_numbers : Nat → Int32) (o_now_events_size : Int32) (v9 : Int32) (v10 : Int32) (hr : wp_608 (WW_684 p l e s m below meth c dC dI cI cJ b) (WW_709 p l e s m below meth c dC dI cI cJ b) L xs o_now_marks_numbers o_now_marks_size o_now_p o_now_e o_now_modulus o_now_windowRow o_now_windowPlace o_now_events_numbers o_now_events_size v9 v10) : WW_608 p l e s m below meth c dC dI cI cJ b o_now_marks_numbers o_now_marks_size o_now_p o_now_e o_now_modulus o_now_windowRow o_now_windowPlace o_now_events_numbers o_now_events_size v9 v10 := by
  obtain ⟨hx, hb, hrt, hml, hown, hts, hX, hbl, hlocks, hE⟩ := C
  have hK := hE.1
  have hA : ∀ q : Nat, s.heap.size ≤ q → (fun q : Nat => s.heap.size ≤ q) q := fun _ h => h
  have hbA : ¬ (fun q : Nat => s.heap.size ≤ q) b := Nat.not_le.mpr hbl
  intro aO fO aX fX a_text a_was a_sa a_sb a_sc o_reader_text o_reader_length o_reader_next o_reader_clauses_numbers o_reader_clauses_size x_now_marks_numbers x_now_marks_size x_now_p x_now_e x_now_modulus x_now_windowRow x_now_windowPlace text was sa sb sc H locs ls hD hP hS hl
  unfold wp_608 at hr
  refine lv_iload hx hb dL_law_608 (lv_at hl 3 rfl) ?_
  refine lv_iload hx hb dL_law_610 (lv_at hl 2 rfl) ?_
  refine lv_icmp_ge (tgt := 709) hx hb dL_law_612 (by decide) (fun c_1 => ?_) (fun c_1 => ?_)
  · have hr := pite_p hr c_1
    exact hr aO fO aX fX a_text a_was a_sa a_sb a_sc o_reader_text o_reader_length o_reader_next o_reader_clauses_numbers o_reader_clauses_size x_now_marks_numbers x_now_marks_size x_now_p x_now_e x_now_modulus x_now_windowRow x_now_windowPlace text was sa sb sc H locs ls (hD.fst rfl) hP hS (lv_sub hl [0, 1, 2] rfl)
  · have hr := pite_n hr c_1
    refine lv_aload_n hx hb dL_law_615 rfl (lv_at hl 0 rfl) ?_
    refine lv_bipush (v := (122 : Int32)) hx hb dL_law_616 (by decide) ?_
    refine lv_iload hx hb dL_law_618 (lv_at hl 3 rfl) ?_
    refine lv_iadd hx hb dL_law_620 ?_
    obtain ⟨u_2, hu_2, hr⟩ := pbd_e hr
    refine ro_SXc ⟨hx, hb, hml, hown, hts⟩ (k_L_cell l dC dI cI cJ b ((122 : Int32) + v10) L xs u_2 hu_2) (va_cwS 2 hts gL_law_L_cell rfl rfl rfl (by decide +kernel) ⟨(Nat.le_of_ble_eq_true rfl), (Nat.le_of_ble_eq_true rfl)⟩) hE (va_X_at hX hbl hbA hS) rfl hl.1 rfl (Nat.le_of_ble_eq_true rfl) dL_law_621 ⟨(Nat.le_of_ble_eq_true rfl), (Nat.le_of_ble_eq_true rfl)⟩ ?_
    refine lv_istore (lv' := [(11, .int u_2), (0, .ref b), (1, .ref aO), (9, .int v9), (10, .int v10)]) hx hb dL_law_624 hl (by decide) rfl (fun ls hl => ?_)
    refine lv_iload hx hb dL_law_626 (lv_at hl 0 rfl) ?_
    refine lv_iconst (v := (3 : Int32)) hx hb dL_law_628 (by decide) ?_
    refine lv_iand hx hb dL_law_629 ?_
    refine lv_istore (lv' := [(12, .int (u_2 &&& (3 : Int32))), (11, .int u_2), (0, .ref b), (1, .ref aO), (9, .int v9), (10, .int v10)]) hx hb dL_law_630 hl (by decide) rfl (fun ls hl => ?_)
    refine lv_iload hx hb dL_law_632 (lv_at hl 0 rfl) ?_
    refine lv_if_ne (tgt := 641) hx hb dL_law_634 (by decide) (fun c_3 => ?_) (fun c_3 => ?_)
    · have hr := pite_n hr c_3
      refine lv_iload hx hb dL_law_641 (lv_at hl 0 rfl) ?_
      refine lv_iconst (v := (1 : Int32)) hx hb dL_law_643 (by decide) ?_
      refine lv_icmp_ne (tgt := 658) hx hb dL_law_644 (by decide) (fun c_4 => ?_) (fun c_4 => ?_)
      · have hr := pite_n hr c_4
        refine lv_iload hx hb dL_law_658 (lv_at hl 0 rfl) ?_
        refine lv_iconst (v := (2 : Int32)) hx hb dL_law_660 (by decide) ?_
        refine lv_icmp_ne (tgt := 674) hx hb dL_law_661 (by decide) (fun c_5 => ?_) (fun c_5 => ?_)
        · have hr := pite_n hr c_5
          refine lv_iload hx hb dL_law_674 (lv_at hl 1 rfl) ?_
          refine lv_iconst (v := (2 : Int32)) hx hb dL_law_676 (by decide) ?_
          refine lv_ishr hx hb dL_law_677 ?_
          refine lv_bipush (v := (63 : Int32)) hx hb dL_law_678 (by decide) ?_
          refine lv_iand hx hb dL_law_680 ?_
          refine lv_bipush (v := (6 : Int32)) hx hb dL_law_681 (by decide) ?_
          obtain ⟨d_6, ed_6, hd_6, hr⟩ := pmd_e hr
          refine lv_irem hx hb dL_law_683 hd_6 ?_
          refine tp_ ed_6 ?_
          exact hr aO fO aX fX a_text a_was a_sa a_sb a_sc o_reader_text o_reader_length o_reader_next o_reader_clauses_numbers o_reader_clauses_size x_now_marks_numbers x_now_marks_size x_now_p x_now_e x_now_modulus x_now_windowRow x_now_windowPlace text was sa sb sc H locs ls (hD.fst rfl) hP hS (lv_sub hl [2, 3, 4, 5, 0] rfl)
        · have hr := pite_p hr c_5
          refine lv_iload hx hb dL_law_664 (lv_at hl 1 rfl) ?_
          refine lv_iconst (v := (2 : Int32)) hx hb dL_law_666 (by decide) ?_
          refine lv_ishr hx hb dL_law_667 ?_
          refine lv_bipush (v := (63 : Int32)) hx hb dL_law_668 (by decide) ?_
          refine lv_iand hx hb dL_law_670 ?_
          refine lv_goto (tgt := 684) hx hb dL_law_671 (by decide) ?_
          exact hr aO fO aX fX a_text a_was a_sa a_sb a_sc o_reader_text o_reader_length o_reader_next o_reader_clauses_numbers o_reader_clauses_size x_now_marks_numbers x_now_marks_size x_now_p x_now_e x_now_modulus x_now_windowRow x_now_windowPlace text was sa sb sc H locs ls (hD.fst rfl) hP hS (lv_sub hl [2, 3, 4, 5, 0] rfl)
      · have hr := pite_p hr c_4
        refine lv_iconst (v := (1 : Int32)) hx hb dL_law_647 (by decide) ?_
        refine lv_iload hx hb dL_law_648 (lv_at hl 1 rfl) ?_
        refine lv_iconst (v := (2 : Int32)) hx hb dL_law_650 (by decide) ?_
        refine lv_ishr hx hb dL_law_651 ?_
        refine lv_iconst (v := (3 : Int32)) hx hb dL_law_652 (by decide) ?_
        refine lv_iand hx hb dL_law_653 ?_
        refine lv_iadd hx hb dL_law_654 ?_
        refine lv_goto (tgt := 684) hx hb dL_law_655 (by decide) ?_
        exact hr aO fO aX fX a_text a_was a_sa a_sb a_sc o_reader_text o_reader_length o_reader_next o_reader_clauses_numbers o_reader_clauses_size x_now_marks_numbers x_now_marks_size x_now_p x_now_e x_now_modulus x_now_windowRow x_now_windowPlace text was sa sb sc H locs ls (hD.fst rfl) hP hS (lv_sub hl [2, 3, 4, 5, 0] rfl)
    · have hr := pite_p hr c_3
      refine lv_iconst (v := (0 : Int32)) hx hb dL_law_637 (by decide) ?_
      refine lv_goto (tgt := 684) hx hb dL_law_638 (by decide) ?_
      exact hr aO fO aX fX a_text a_was a_sa a_sb a_sc o_reader_text o_reader_length o_reader_next o_reader_clauses_numbers o_reader_clauses_size x_now_marks_numbers x_now_marks_size x_now_p x_now_e x_now_modulus x_now_windowRow x_now_windowPlace text was sa sb sc H locs ls (hD.fst rfl) hP hS (lv_sub hl [2, 3, 4, 5, 0] rfl)
set_option maxHeartbeats 8000000 in
set_option maxRecDepth 100000 in
theorem blk_684 {p : Program} {l : Launch} {e : Env} {s : State} {m : MethodId} {below : List Frame} {meth : Method} {c : Code} {dC : Nat → ClassId} {dI : Nat → Nat → Nat} {cI : ClassId} {cJ : ClassId} {b : Nat} {L : Nat} {xs : Nat → Int32} (C : LC p s m meth c dC dI cI cJ b L xs) (o_now_marks_numbers : Nat → Int32) (o_now_marks_size : Int32) (o_now_p : Int32) (o_now_e : Int32) (o_now_modulus : Int32) (o_now_windowRow : Int32) (o_now_windowPlace : Int32) (o_now_events_numbers : Nat → Int32) (o_now_events_size : Int32) (v9 : Int32) (v10 : Int32) (v12 : Int32) (z0 : Int32) (hr : wp_684 (WW_608 p l e s m below meth c dC dI cI cJ b) L xs o_now_marks_numbers o_now_marks_size o_now_p o_now_e o_now_modulus o_now_windowRow o_now_windowPlace o_now_events_numbers o_now_events_size v9 v10 v12 z0) : WW_684 p l e s m below meth c dC dI cI cJ b o_now_marks_numbers o_now_marks_size o_now_p o_now_e o_now_modulus o_now_windowRow o_now_windowPlace o_now_events_numbers o_now_events_size v9 v10 v12 z0 := by
  obtain ⟨hx, hb, hrt, hml, hown, hts, hX, hbl, hlocks, hE⟩ := C
  have hK := hE.1
  have hA : ∀ q : Nat, s.heap.size ≤ q → (fun q : Nat => s.heap.size ≤ q) q := fun _ h => h
  have hbA : ¬ (fun q : Nat => s.heap.size ≤ q) b := Nat.not_le.mpr hbl
  intro aO fO aX fX a_text a_was a_sa a_sb a_sc o_reader_text o_reader_length o_reader_next o_reader_clauses_numbers o_reader_clauses_size x_now_marks_numbers x_now_marks_size x_now_p x_now_e x_now_modulus x_now_windowRow x_now_windowPlace text was sa sb sc H locs ls hD hP hS hl
  unfold wp_684 at hr
  refine lv_istore (lv' := [(13, .int z0), (0, .ref b), (1, .ref aO), (9, .int v9), (10, .int v10), (12, .int v12)]) hx hb dL_law_684 hl (by decide) rfl (fun ls hl => ?_)
  refine lv_aload_n hx hb dL_law_686 rfl (lv_at hl 2 rfl) ?_
  refine lv_iload hx hb dL_law_687 (lv_at hl 5 rfl) ?_
  refine lv_iload hx hb dL_law_689 (lv_at hl 0 rfl) ?_
  obtain ⟨u_1, hu_1, hr⟩ := pbd_e hr
  refine mu_X ⟨hx, hb, hml, hown, hts⟩ (k_X6_event l dC dI cI cJ aO (fO 0) (fO 2) (fO 11) (fO 20) (fO 29) (fO 33) (fO 3) (fO 5) (fO 7) (fO 9) (fO 8) v12 z0 (0 : Int32) o_now_p o_now_e o_now_modulus o_now_windowRow o_now_windowPlace o_now_events_size o_now_events_numbers H.size u_1 hu_1) (cwV 2 hts gL_law_X6_event rfl rfl rfl (by decide +kernel) ⟨(Nat.le_of_ble_eq_true rfl), (Nat.le_of_ble_eq_true rfl)⟩) hE 0 rfl rfl rfl rfl hl.1 rfl (Nat.le_of_ble_eq_true rfl) dL_law_691 ⟨(Nat.le_of_ble_eq_true rfl), (Nat.le_of_ble_eq_true rfl)⟩ hP (hD.fst rfl) hS hA [true, false, false, true, false, false, false, false, true, true] rfl (W1 := (wo cI cJ aO fO (0 : Int32) h6 o_now_p o_now_e o_now_modulus o_now_windowRow o_now_windowPlace o_now_marks_size o_now_marks_numbers (0 : Int32) (fun _ => (0 : Int32)) u_1.2.2 u_1.2.1 (0 : Int32) (fun _ => (0 : Int32)) (2 : Int32) (1 : Int32) (2 : Int32) (0 : Int32) (0 : Int32) (0 : Int32) (fun _ => (0 : Int32)) (0 : Int32) (fun _ => (0 : Int32)) (0 : Int32) (fun _ => (0 : Int32)) (0 : Int32) (fun _ => (0 : Int32)) (2 : Int32) (1 : Int32) (2 : Int32) (0 : Int32) (0 : Int32) (0 : Int32) (fun _ => (0 : Int32)) (0 : Int32) (fun _ => (0 : Int32)) (0 : Int32) (fun _ => (0 : Int32)) (0 : Int32) (fun _ => (0 : Int32)) o_reader_length o_reader_next o_reader_text o_reader_clauses_size o_reader_clauses_numbers so6 (fun _ => (0 : Int32)) (fun _ => (0 : Int64)) (wo cI cJ aX fX (0 : Int32) h6 x_now_p x_now_e x_now_modulus x_now_windowRow x_now_windowPlace x_now_marks_size x_now_marks_numbers (0 : Int32) (fun _ => (0 : Int32)) (0 : Int32) (fun _ => (0 : Int32)) (0 : Int32) (fun _ => (0 : Int32)) (2 : Int32) (1 : Int32) (2 : Int32) (0 : Int32) (0 : Int32) (0 : Int32) (fun _ => (0 : Int32)) (0 : Int32) (fun _ => (0 : Int32)) (0 : Int32) (fun _ => (0 : Int32)) (0 : Int32) (fun _ => (0 : Int32)) (2 : Int32) (1 : Int32) (2 : Int32) (0 : Int32) (0 : Int32) (0 : Int32) (fun _ => (0 : Int32)) (0 : Int32) (fun _ => (0 : Int32)) (0 : Int32) (fun _ => (0 : Int32)) (0 : Int32) (fun _ => (0 : Int32)) (0 : Int32) (0 : Int32) (fun _ => (0 : Int32)) (0 : Int32) (fun _ => (0 : Int32)) so6 (fun _ => (0 : Int32)) (fun _ => (0 : Int64)) [(a_text, .inl (cI, 120, .inl text)), (a_was, .inl (cI, 20, .inl was)), (a_sa, .inl (cI, 20, .inl sa)), (a_sb, .inl (cI, 20, .inl sb)), (a_sc, .inl (cI, 20, .inl sc))]))) rfl (fun H locs hP hS => W.eq (g2 := F0 m 694 ls [.int u_1.1]) rfl ?_)
  refine lv_iload hx hb dL_law_694 (lv_at hl 4 rfl) ?_
  refine lv_iconst (v := (1 : Int32)) hx hb dL_law_696 (by decide) ?_
  refine lv_iadd hx hb dL_law_697 ?_
  refine lv_icmp_eq (tgt := 703) hx hb dL_law_698 (by decide) (fun c_2 => ?_) (fun c_2 => ?_)
  · have hr := pite_p hr c_2
    refine lv_iinc (v := (v10 + (1 : Int32))) (lv' := [(10, .int (v10 + (1 : Int32))), (13, .int z0), (0, .ref b), (1, .ref aO), (9, .int v9), (12, .int v12)]) hx hb dL_law_703 hl (k := 4) rfl (congrArg (fun z => v10 + z) (by decide)) (by decide) rfl (fun ls hl => ?_)
    refine lv_goto (tgt := 608) hx hb dL_law_706 (by decide) ?_
    exact hr aO fO aX fX a_text a_was a_sa a_sb a_sc o_reader_text o_reader_length o_reader_next o_reader_clauses_numbers o_reader_clauses_size x_now_marks_numbers x_now_marks_size x_now_p x_now_e x_now_modulus x_now_windowRow x_now_windowPlace text was sa sb sc H locs ls (hD.fst rfl) hP hS (lv_sub hl [2, 3, 4, 0] rfl)
  · have hr := pite_n hr c_2
    refine lv_iconst (v := (0 : Int32)) hx hb dL_law_701 (by decide) ?_
    refine tp_ hr.symm ?_
    refine W.widen (k := 600000) (n := 7302250) (Nat.le_of_ble_eq_true rfl) (Nat.le_of_ble_eq_true rfl) ?_
    exact va_forget (fun q hq => hS.2.2 q hq) (lw_ret hx hb hrt hlocks dL_law_702)
