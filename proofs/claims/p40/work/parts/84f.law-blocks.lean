/-! the law's blocks -/
set_option maxHeartbeats 8000000 in
set_option maxRecDepth 100000 in
theorem blk_1097 {p : Program} {l : Launch} {e : Env} {s : State} {m : MethodId} {below : List Frame} {meth : Method} {c : Code} {dC : Nat → ClassId} {dI : Nat → Nat → Nat} {cI : ClassId} {cJ : ClassId} {b : Nat} {L : Nat} {xs : Nat → Int32} (C : LC p s m meth c dC dI cI cJ b L xs) (o_now_marks_numbers : Nat → Int32) (o_now_marks_size : Int32) (o_now_p : Int32) (o_now_e : Int32) (o_now_modulus : Int32) (o_now_windowRow : Int32) (o_now_windowPlace : Int32) (o_now_events_numbers : Nat → Int32) (o_now_events_size : Int32) (o_kept_marks_numbers : Nat → Int32) (o_kept_marks_size : Int32) (o_kept_events_numbers : Nat → Int32) (o_kept_events_size : Int32) (o_kept_book_numbers : Nat → Int32) (o_kept_book_size : Int32) (o_kept_p : Int32) (o_kept_e : Int32) (o_kept_windowRow : Int32) (o_kept_windowPlace : Int32) (o_hasImage : Int32) (th : Nat → Int32) (nw : Nat → Int32) (v9 : Int32) (v14 : Int32) (hr : wp_1097 (WW_1178 p l e s m below meth c dC dI cI cJ b) L xs o_now_marks_numbers o_now_marks_size o_now_p o_now_e o_now_modulus o_now_windowRow o_now_windowPlace o_now_events_numbers o_now_events_size o_kept_marks_numbers o_kept_marks_size o_kept_events_numbers o_kept_events_size o_kept_book_numbers o_kept_book_size o_kept_p o_kept_e o_kept_windowRow o_kept_windowPlace o_hasImage th nw v9 v14) : WW_1097 p l e s m below meth c dC dI cI cJ b o_now_marks_numbers o_now_marks_size o_now_p o_now_e o_now_modulus o_now_windowRow o_now_windowPlace o_now_events_numbers o_now_events_size o_kept_marks_numbers o_kept_marks_size o_kept_events_numbers o_kept_events_size o_kept_book_numbers o_kept_book_size o_kept_p o_kept_e o_kept_windowRow o_kept_windowPlace o_hasImage th nw v9 v14 := by
  obtain ⟨hx, hb, hrt, hml, hown, hts, hX, hbl, hlocks, hE⟩ := C
  have hK := hE.1
  have hA : ∀ q : Nat, s.heap.size ≤ q → (fun q : Nat => s.heap.size ≤ q) q := fun _ h => h
  have hbA : ¬ (fun q : Nat => s.heap.size ≤ q) b := Nat.not_le.mpr hbl
  intro aO fO aX fX a_text a_was a_sa a_sb a_sc a_th a_nw a_ms o_kept_seen_numbers o_kept_seen_size o_kept_modulus o_trial_marks_numbers o_trial_marks_size o_trial_seen_numbers o_trial_seen_size o_trial_events_numbers o_trial_events_size o_trial_book_numbers o_trial_book_size o_trial_p o_trial_e o_trial_modulus o_trial_windowRow o_trial_windowPlace o_reader_text o_reader_length o_reader_next o_reader_clauses_numbers o_reader_clauses_size x_now_marks_numbers x_now_marks_size x_now_p x_now_e x_now_modulus x_now_windowRow x_now_windowPlace text was sa sb sc ms H locs ls hD hP hS hl
  unfold wp_1097 at hr
  have hr := hr o_kept_seen_numbers o_kept_seen_size o_reader_length
  refine lv_aload_n hx hb dL_law_1097 rfl (lv_at hl 1 rfl) ?_
  refine lv_bipush (v := (6 : Int32)) hx hb dL_law_1098 (by decide) ?_
  obtain ⟨u_1, hu_1, hr⟩ := pbd_e hr
  refine ro_V ⟨hx, hb, hml, hown, hts⟩ (k_X6_told l dC dI cI cJ aO (fO 0) (fO 2) (fO 11) (fO 20) (fO 29) (fO 33) (fO 1) (fO 3) (fO 5) (fO 7) (fO 9) (fO 4) (6 : Int32) o_hasImage h6 o_now_p o_now_e o_now_modulus o_now_windowRow o_now_windowPlace o_now_marks_size o_now_marks_numbers u_1 hu_1) (cwV 1 hts gL_law_X6_told rfl rfl rfl (by decide +kernel) ⟨(Nat.le_of_ble_eq_true rfl), (Nat.le_of_ble_eq_true rfl)⟩) hE hP 0 rfl rfl rfl (pk_P [true, true, true, true, true, true] rfl hP (hD.fst rfl)).1 rfl hl.1 rfl (Nat.le_of_ble_eq_true rfl) dL_law_1100 ⟨(Nat.le_of_ble_eq_true rfl), (Nat.le_of_ble_eq_true rfl)⟩ ?_
  refine lv_aload hx hb dL_law_1103 (lv_at hl 3 rfl) ?_
  refine lv_iconst (v := (0 : Int32)) hx hb dL_law_1105 (by decide) ?_
  obtain ⟨g_2, eg_2, hg_2, hr⟩ := prd_e hr
  refine va_iald hx hb hK hP 81 0 rfl rfl hg_2 dL_law_1106 ?_
  refine tp_ eg_2 ?_
  refine lv_icmp_ne (tgt := 1176) hx hb dL_law_1107 (by decide) (fun c_3 => ?_) (fun c_3 => ?_)
  · have hr := pite_n hr c_3
    refine lv_iconst (v := (0 : Int32)) hx hb dL_law_1176 (by decide) ?_
    refine tp_ hr.symm ?_
    refine W.widen (k := 600000) (n := 7302250) (Nat.le_of_ble_eq_true rfl) (Nat.le_of_ble_eq_true rfl) ?_
    exact va_forget (fun q hq => hS.2.2 q hq) (lw_ret hx hb hrt hlocks dL_law_1177)
  · have hr := pite_p hr c_3
    refine lv_aload_n hx hb dL_law_1110 rfl (lv_at hl 1 rfl) ?_
    refine lv_iconst (v := (2 : Int32)) hx hb dL_law_1111 (by decide) ?_
    obtain ⟨u_4, hu_4, hr⟩ := pbd_e hr
    refine ro_V ⟨hx, hb, hml, hown, hts⟩ (k_X6_told l dC dI cI cJ aO (fO 0) (fO 2) (fO 11) (fO 20) (fO 29) (fO 33) (fO 1) (fO 3) (fO 5) (fO 7) (fO 9) (fO 4) (2 : Int32) o_hasImage h6 o_now_p o_now_e o_now_modulus o_now_windowRow o_now_windowPlace o_now_marks_size o_now_marks_numbers u_4 hu_4) (cwV 1 hts gL_law_X6_told rfl rfl rfl (by decide +kernel) ⟨(Nat.le_of_ble_eq_true rfl), (Nat.le_of_ble_eq_true rfl)⟩) hE hP 0 rfl rfl rfl (pk_P [true, true, true, true, true, true] rfl hP (hD.fst rfl)).1 rfl hl.1 rfl (Nat.le_of_ble_eq_true rfl) dL_law_1112 ⟨(Nat.le_of_ble_eq_true rfl), (Nat.le_of_ble_eq_true rfl)⟩ ?_
    refine lv_aload hx hb dL_law_1115 (lv_at hl 3 rfl) ?_
    refine lv_iconst (v := (1 : Int32)) hx hb dL_law_1117 (by decide) ?_
    obtain ⟨g_5, eg_5, hg_5, hr⟩ := prd_e hr
    refine va_iald hx hb hK hP 81 0 rfl rfl hg_5 dL_law_1118 ?_
    refine tp_ eg_5 ?_
    refine lv_icmp_ne (tgt := 1176) hx hb dL_law_1119 (by decide) (fun c_6 => ?_) (fun c_6 => ?_)
    · have hr := pite_n hr c_6
      refine lv_iconst (v := (0 : Int32)) hx hb dL_law_1176 (by decide) ?_
      refine tp_ hr.symm ?_
      refine W.widen (k := 600000) (n := 7302250) (Nat.le_of_ble_eq_true rfl) (Nat.le_of_ble_eq_true rfl) ?_
      exact va_forget (fun q hq => hS.2.2 q hq) (lw_ret hx hb hrt hlocks dL_law_1177)
    · have hr := pite_p hr c_6
      refine lv_aload_n hx hb dL_law_1122 rfl (lv_at hl 1 rfl) ?_
      refine lv_iconst (v := (3 : Int32)) hx hb dL_law_1123 (by decide) ?_
      obtain ⟨u_7, hu_7, hr⟩ := pbd_e hr
      refine ro_V ⟨hx, hb, hml, hown, hts⟩ (k_X6_told l dC dI cI cJ aO (fO 0) (fO 2) (fO 11) (fO 20) (fO 29) (fO 33) (fO 1) (fO 3) (fO 5) (fO 7) (fO 9) (fO 4) (3 : Int32) o_hasImage h6 o_now_p o_now_e o_now_modulus o_now_windowRow o_now_windowPlace o_now_marks_size o_now_marks_numbers u_7 hu_7) (cwV 1 hts gL_law_X6_told rfl rfl rfl (by decide +kernel) ⟨(Nat.le_of_ble_eq_true rfl), (Nat.le_of_ble_eq_true rfl)⟩) hE hP 0 rfl rfl rfl (pk_P [true, true, true, true, true, true] rfl hP (hD.fst rfl)).1 rfl hl.1 rfl (Nat.le_of_ble_eq_true rfl) dL_law_1124 ⟨(Nat.le_of_ble_eq_true rfl), (Nat.le_of_ble_eq_true rfl)⟩ ?_
      refine lv_aload hx hb dL_law_1127 (lv_at hl 3 rfl) ?_
      refine lv_iconst (v := (2 : Int32)) hx hb dL_law_1129 (by decide) ?_
      obtain ⟨g_8, eg_8, hg_8, hr⟩ := prd_e hr
      refine va_iald hx hb hK hP 81 0 rfl rfl hg_8 dL_law_1130 ?_
      refine tp_ eg_8 ?_
      refine lv_icmp_ne (tgt := 1176) hx hb dL_law_1131 (by decide) (fun c_9 => ?_) (fun c_9 => ?_)
      · have hr := pite_n hr c_9
        refine lv_iconst (v := (0 : Int32)) hx hb dL_law_1176 (by decide) ?_
        refine tp_ hr.symm ?_
        refine W.widen (k := 600000) (n := 7302250) (Nat.le_of_ble_eq_true rfl) (Nat.le_of_ble_eq_true rfl) ?_
        exact va_forget (fun q hq => hS.2.2 q hq) (lw_ret hx hb hrt hlocks dL_law_1177)
      · have hr := pite_p hr c_9
        refine lv_aload_n hx hb dL_law_1134 rfl (lv_at hl 1 rfl) ?_
        obtain ⟨u_10, hu_10, hr⟩ := pbd_e hr
        refine mu_X ⟨hx, hb, hml, hown, hts⟩ (k_X6_undo l dC dI cI cJ aO (fO 0) (fO 2) (fO 11) (fO 20) (fO 29) (fO 33) (fO 3) (fO 5) (fO 7) (fO 9) (fO 4) (fO 6) (fO 8) (fO 10) (fO 12) (fO 14) (fO 16) (fO 18) (fO 13) (fO 15) (fO 17) (fO 19) o_hasImage o_now_p o_now_e o_now_modulus o_now_windowRow o_now_windowPlace o_now_marks_size o_now_marks_numbers (0 : Int32) (fun _ => (0 : Int32)) o_now_events_size o_now_events_numbers (0 : Int32) (fun _ => (0 : Int32)) o_kept_p o_kept_e o_kept_modulus o_kept_windowRow o_kept_windowPlace o_kept_marks_size o_kept_marks_numbers o_kept_seen_size o_kept_seen_numbers o_kept_events_size o_kept_events_numbers o_kept_book_size o_kept_book_numbers H.size u_10 hu_10) (cwV 0 hts gL_law_X6_undo rfl rfl rfl (by decide +kernel) ⟨(Nat.le_of_ble_eq_true rfl), (Nat.le_of_ble_eq_true rfl)⟩) hE 0 rfl rfl rfl rfl hl.1 rfl (Nat.le_of_ble_eq_true rfl) dL_law_1135 ⟨(Nat.le_of_ble_eq_true rfl), (Nat.le_of_ble_eq_true rfl)⟩ hP (hD.fst rfl) hS hA [true, false, false, true, true, true, true, true, true, true, true, true, true, true, true, true, true, true, true, true, true] rfl (W1 := (wo cI cJ aO fO o_hasImage h6 u_10.2.2.2.2.2.2.2.2.2.1 u_10.2.2.2.2.2.2.2.2.2.2.1 u_10.2.2.2.2.2.2.2.2.2.2.2.1 u_10.2.2.2.2.2.2.2.2.2.2.2.2.1 u_10.2.2.2.2.2.2.2.2.2.2.2.2.2 u_10.2.2.1 u_10.2.1 u_10.2.2.2.2.1 u_10.2.2.2.1 u_10.2.2.2.2.2.2.1 u_10.2.2.2.2.2.1 u_10.2.2.2.2.2.2.2.2.1 u_10.2.2.2.2.2.2.2.1 o_kept_p o_kept_e o_kept_modulus o_kept_windowRow o_kept_windowPlace o_kept_marks_size o_kept_marks_numbers o_kept_seen_size o_kept_seen_numbers o_kept_events_size o_kept_events_numbers o_kept_book_size o_kept_book_numbers o_trial_p o_trial_e o_trial_modulus o_trial_windowRow o_trial_windowPlace o_trial_marks_size o_trial_marks_numbers o_trial_seen_size o_trial_seen_numbers o_trial_events_size o_trial_events_numbers o_trial_book_size o_trial_book_numbers o_reader_length o_reader_next o_reader_text o_reader_clauses_size o_reader_clauses_numbers so6 (fun _ => (0 : Int32)) (fun _ => (0 : Int64)) (wo cI cJ aX fX (0 : Int32) h6 x_now_p x_now_e x_now_modulus x_now_windowRow x_now_windowPlace x_now_marks_size x_now_marks_numbers (0 : Int32) (fun _ => (0 : Int32)) (0 : Int32) (fun _ => (0 : Int32)) (0 : Int32) (fun _ => (0 : Int32)) (2 : Int32) (1 : Int32) (2 : Int32) (0 : Int32) (0 : Int32) (0 : Int32) (fun _ => (0 : Int32)) (0 : Int32) (fun _ => (0 : Int32)) (0 : Int32) (fun _ => (0 : Int32)) (0 : Int32) (fun _ => (0 : Int32)) (2 : Int32) (1 : Int32) (2 : Int32) (0 : Int32) (0 : Int32) (0 : Int32) (fun _ => (0 : Int32)) (0 : Int32) (fun _ => (0 : Int32)) (0 : Int32) (fun _ => (0 : Int32)) (0 : Int32) (fun _ => (0 : Int32)) (0 : Int32) (0 : Int32) (fun _ => (0 : Int32)) (0 : Int32) (fun _ => (0 : Int32)) so6 (fun _ => (0 : Int32)) (fun _ => (0 : Int64)) [(a_text, .inl (cI, 120, .inl text)), (a_was, .inl (cI, 20, .inl was)), (a_sa, .inl (cI, 20, .inl sa)), (a_sb, .inl (cI, 20, .inl sb)), (a_sc, .inl (cI, 20, .inl sc)), (a_th, .inl (cI, 3, .inl th)), (a_nw, .inl (cI, 20, .inl nw)), (a_ms, .inl (cI, 12, .inl ms))]))) rfl (fun H locs hP hS => W.eq (g2 := F0 m 1138 ls [.int u_10.1]) rfl ?_)
        refine lv_aload hx hb dL_law_1138 (lv_at hl 4 rfl) ?_
        refine lv_iconst (v := (2 : Int32)) hx hb dL_law_1140 (by decide) ?_
        obtain ⟨g_11, eg_11, hg_11, hr⟩ := prd_e hr
        refine va_iald hx hb hK hP 82 0 rfl rfl hg_11 dL_law_1141 ?_
        refine tp_ eg_11 ?_
        refine lv_icmp_ne (tgt := 1176) hx hb dL_law_1142 (by decide) (fun c_12 => ?_) (fun c_12 => ?_)
        · have hr := pite_n hr c_12
          refine lv_iconst (v := (0 : Int32)) hx hb dL_law_1176 (by decide) ?_
          refine tp_ hr.symm ?_
          refine W.widen (k := 600000) (n := 7302250) (Nat.le_of_ble_eq_true rfl) (Nat.le_of_ble_eq_true rfl) ?_
          exact va_forget (fun q hq => hS.2.2 q hq) (lw_ret hx hb hrt hlocks dL_law_1177)
        · have hr := pite_p hr c_12
          refine lv_aload_n hx hb dL_law_1145 rfl (lv_at hl 1 rfl) ?_
          obtain ⟨u_13, hu_13, hr⟩ := pbd_e hr
          refine nr_S (x := fun a => (a, .inl (cI, 20, .inl u_13))) (fun _ => rfl) ⟨hx, hb, hml, hown, hts⟩ (k_L_state l dC dI cI cJ aO (fO 0) (fO 2) (fO 11) (fO 20) (fO 29) (fO 33) (fO 1) (fO 3) (fO 5) (fO 7) (fO 9) (fO 4) o_hasImage h6 u_10.2.2.2.2.2.2.2.2.2.1 u_10.2.2.2.2.2.2.2.2.2.2.1 u_10.2.2.2.2.2.2.2.2.2.2.2.1 u_10.2.2.2.2.2.2.2.2.2.2.2.2.1 u_10.2.2.2.2.2.2.2.2.2.2.2.2.2 u_10.2.2.1 u_10.2.1 H.size u_13 hu_13) (va_cwS 1 hts gL_law_L_state rfl rfl rfl (by decide +kernel) ⟨(Nat.le_of_ble_eq_true rfl), (Nat.le_of_ble_eq_true rfl)⟩) hE rfl hl.1 rfl (Nat.le_of_ble_eq_true rfl) dL_law_1146 ⟨(Nat.le_of_ble_eq_true rfl), (Nat.le_of_ble_eq_true rfl)⟩ hP (hD.fst rfl) hS hA [true, true, true, true, true, true] rfl (fun a_sd H locs hP hD hS => ?_)
          have hP : va_P (dC, dI) vwCl (wo cI cJ aO fO o_hasImage h6 u_10.2.2.2.2.2.2.2.2.2.1 u_10.2.2.2.2.2.2.2.2.2.2.1 u_10.2.2.2.2.2.2.2.2.2.2.2.1 u_10.2.2.2.2.2.2.2.2.2.2.2.2.1 u_10.2.2.2.2.2.2.2.2.2.2.2.2.2 u_10.2.2.1 u_10.2.1 u_10.2.2.2.2.1 u_10.2.2.2.1 u_10.2.2.2.2.2.2.1 u_10.2.2.2.2.2.1 u_10.2.2.2.2.2.2.2.2.1 u_10.2.2.2.2.2.2.2.1 o_kept_p o_kept_e o_kept_modulus o_kept_windowRow o_kept_windowPlace o_kept_marks_size o_kept_marks_numbers o_kept_seen_size o_kept_seen_numbers o_kept_events_size o_kept_events_numbers o_kept_book_size o_kept_book_numbers o_trial_p o_trial_e o_trial_modulus o_trial_windowRow o_trial_windowPlace o_trial_marks_size o_trial_marks_numbers o_trial_seen_size o_trial_seen_numbers o_trial_events_size o_trial_events_numbers o_trial_book_size o_trial_book_numbers o_reader_length o_reader_next o_reader_text o_reader_clauses_size o_reader_clauses_numbers so6 (fun _ => (0 : Int32)) (fun _ => (0 : Int64)) (wo cI cJ aX fX (0 : Int32) h6 x_now_p x_now_e x_now_modulus x_now_windowRow x_now_windowPlace x_now_marks_size x_now_marks_numbers (0 : Int32) (fun _ => (0 : Int32)) (0 : Int32) (fun _ => (0 : Int32)) (0 : Int32) (fun _ => (0 : Int32)) (2 : Int32) (1 : Int32) (2 : Int32) (0 : Int32) (0 : Int32) (0 : Int32) (fun _ => (0 : Int32)) (0 : Int32) (fun _ => (0 : Int32)) (0 : Int32) (fun _ => (0 : Int32)) (0 : Int32) (fun _ => (0 : Int32)) (2 : Int32) (1 : Int32) (2 : Int32) (0 : Int32) (0 : Int32) (0 : Int32) (fun _ => (0 : Int32)) (0 : Int32) (fun _ => (0 : Int32)) (0 : Int32) (fun _ => (0 : Int32)) (0 : Int32) (fun _ => (0 : Int32)) (0 : Int32) (0 : Int32) (fun _ => (0 : Int32)) (0 : Int32) (fun _ => (0 : Int32)) so6 (fun _ => (0 : Int32)) (fun _ => (0 : Int64)) [(a_text, .inl (cI, 120, .inl text)), (a_was, .inl (cI, 20, .inl was)), (a_sa, .inl (cI, 20, .inl sa)), (a_sb, .inl (cI, 20, .inl sb)), (a_sc, .inl (cI, 20, .inl sc)), (a_th, .inl (cI, 3, .inl th)), (a_nw, .inl (cI, 20, .inl nw)), (a_ms, .inl (cI, 12, .inl ms)), (a_sd, .inl (cI, 20, .inl u_13))])) H := hP
          have hD : va_D (fun q : Nat => s.heap.size ≤ q) (wo cI cJ aO fO o_hasImage h6 u_10.2.2.2.2.2.2.2.2.2.1 u_10.2.2.2.2.2.2.2.2.2.2.1 u_10.2.2.2.2.2.2.2.2.2.2.2.1 u_10.2.2.2.2.2.2.2.2.2.2.2.2.1 u_10.2.2.2.2.2.2.2.2.2.2.2.2.2 u_10.2.2.1 u_10.2.1 u_10.2.2.2.2.1 u_10.2.2.2.1 u_10.2.2.2.2.2.2.1 u_10.2.2.2.2.2.1 u_10.2.2.2.2.2.2.2.2.1 u_10.2.2.2.2.2.2.2.1 o_kept_p o_kept_e o_kept_modulus o_kept_windowRow o_kept_windowPlace o_kept_marks_size o_kept_marks_numbers o_kept_seen_size o_kept_seen_numbers o_kept_events_size o_kept_events_numbers o_kept_book_size o_kept_book_numbers o_trial_p o_trial_e o_trial_modulus o_trial_windowRow o_trial_windowPlace o_trial_marks_size o_trial_marks_numbers o_trial_seen_size o_trial_seen_numbers o_trial_events_size o_trial_events_numbers o_trial_book_size o_trial_book_numbers o_reader_length o_reader_next o_reader_text o_reader_clauses_size o_reader_clauses_numbers so6 (fun _ => (0 : Int32)) (fun _ => (0 : Int64)) (wo cI cJ aX fX (0 : Int32) h6 x_now_p x_now_e x_now_modulus x_now_windowRow x_now_windowPlace x_now_marks_size x_now_marks_numbers (0 : Int32) (fun _ => (0 : Int32)) (0 : Int32) (fun _ => (0 : Int32)) (0 : Int32) (fun _ => (0 : Int32)) (2 : Int32) (1 : Int32) (2 : Int32) (0 : Int32) (0 : Int32) (0 : Int32) (fun _ => (0 : Int32)) (0 : Int32) (fun _ => (0 : Int32)) (0 : Int32) (fun _ => (0 : Int32)) (0 : Int32) (fun _ => (0 : Int32)) (2 : Int32) (1 : Int32) (2 : Int32) (0 : Int32) (0 : Int32) (0 : Int32) (fun _ => (0 : Int32)) (0 : Int32) (fun _ => (0 : Int32)) (0 : Int32) (fun _ => (0 : Int32)) (0 : Int32) (fun _ => (0 : Int32)) (0 : Int32) (0 : Int32) (fun _ => (0 : Int32)) (0 : Int32) (fun _ => (0 : Int32)) so6 (fun _ => (0 : Int32)) (fun _ => (0 : Int64)) [(a_text, .inl (cI, 120, .inl text)), (a_was, .inl (cI, 20, .inl was)), (a_sa, .inl (cI, 20, .inl sa)), (a_sb, .inl (cI, 20, .inl sb)), (a_sc, .inl (cI, 20, .inl sc)), (a_th, .inl (cI, 3, .inl th)), (a_nw, .inl (cI, 20, .inl nw)), (a_ms, .inl (cI, 12, .inl ms)), (a_sd, .inl (cI, 20, .inl u_13))])) := hD.fst rfl
          refine W.widen (k := 85) (n := 10201) (Nat.le_of_ble_eq_true rfl) (Nat.le_of_ble_eq_true rfl) ?_
          refine lv_aload hx hb dL_law_1149 (lv_at hl 4 rfl) ?_
          obtain ⟨u_14, hu_14, hr⟩ := pbd_e hr
          refine ro_S ⟨hx, hb, hml, hown, hts⟩ (k_L_areSame l dC dI cI cJ a_sd a_nw 20 20 u_13 nw u_14 hu_14) (va_cwS 2 hts gL_law_L_areSame rfl rfl rfl (by decide +kernel) ⟨(Nat.le_of_ble_eq_true rfl), (Nat.le_of_ble_eq_true rfl)⟩) hE (hP.sub [84, 82] rfl) rfl hl.1 rfl (Nat.le_of_ble_eq_true rfl) dL_law_1151 ⟨(Nat.le_of_ble_eq_true rfl), (Nat.le_of_ble_eq_true rfl)⟩ ?_
          refine lv_if_eq (tgt := 1176) hx hb dL_law_1154 (by decide) (fun c_15 => ?_) (fun c_15 => ?_)
          · have hr := pite_p hr c_15
            refine lv_iconst (v := (0 : Int32)) hx hb dL_law_1176 (by decide) ?_
            refine tp_ hr.symm ?_
            refine W.widen (k := 600000) (n := 7302250) (Nat.le_of_ble_eq_true rfl) (Nat.le_of_ble_eq_true rfl) ?_
            exact va_forget (fun q hq => hS.2.2 q hq) (lw_ret hx hb hrt hlocks dL_law_1177)
          · have hr := pite_n hr c_15
            refine lv_aload_n hx hb dL_law_1157 rfl (lv_at hl 1 rfl) ?_
            refine lv_iconst (v := (1 : Int32)) hx hb dL_law_1158 (by decide) ?_
            obtain ⟨u_16, hu_16, hr⟩ := pbd_e hr
            refine ro_V ⟨hx, hb, hml, hown, hts⟩ (k_X6_count l dC dI cI cJ aO (fO 0) (fO 2) (fO 11) (fO 20) (fO 29) (fO 33) (fO 3) (fO 5) (fO 7) (fO 9) (fO 6) (fO 8) (fO 10) (fO 30) (fO 31) (1 : Int32) o_hasImage u_10.2.2.2.2.2.2.2.2.2.1 u_10.2.2.2.2.2.2.2.2.2.2.1 u_10.2.2.2.2.2.2.2.2.2.2.2.1 u_10.2.2.2.2.2.2.2.2.2.2.2.2.1 u_10.2.2.2.2.2.2.2.2.2.2.2.2.2 u_10.2.2.2.2.1 u_10.2.2.2.2.2.2.1 u_10.2.2.2.2.2.2.2.2.1 o_reader_length o_reader_next u_16 hu_16) (cwV 1 hts gL_law_X6_count rfl rfl rfl (by decide +kernel) ⟨(Nat.le_of_ble_eq_true rfl), (Nat.le_of_ble_eq_true rfl)⟩) hE hP 0 rfl rfl rfl (pk_P [true, false, false, true, false, false, true, false, true, false, true, false, false, false, false, false, false, false, false, false, false, false, false, false, false, false, false, false, false, false, true] rfl hP (hD.fst rfl)).1 rfl hl.1 rfl (Nat.le_of_ble_eq_true rfl) dL_law_1159 ⟨(Nat.le_of_ble_eq_true rfl), (Nat.le_of_ble_eq_true rfl)⟩ ?_
            refine lv_iload hx hb dL_law_1162 (lv_at hl 2 rfl) ?_
            refine lv_icmp_ne (tgt := 1176) hx hb dL_law_1164 (by decide) (fun c_17 => ?_) (fun c_17 => ?_)
            · have hr := pite_n hr c_17
              refine lv_iconst (v := (0 : Int32)) hx hb dL_law_1176 (by decide) ?_
              refine tp_ hr.symm ?_
              refine W.widen (k := 600000) (n := 7302250) (Nat.le_of_ble_eq_true rfl) (Nat.le_of_ble_eq_true rfl) ?_
              exact va_forget (fun q hq => hS.2.2 q hq) (lw_ret hx hb hrt hlocks dL_law_1177)
            · have hr := pite_p hr c_17
              refine lv_iload hx hb dL_law_1167 (lv_at hl 5 rfl) ?_
              refine lv_aload hx hb dL_law_1169 (lv_at hl 4 rfl) ?_
              refine lv_iconst (v := (3 : Int32)) hx hb dL_law_1171 (by decide) ?_
              obtain ⟨g_18, eg_18, hg_18, hr⟩ := prd_e hr
              refine va_iald hx hb hK hP 82 0 rfl rfl hg_18 dL_law_1172 ?_
              refine tp_ eg_18 ?_
              refine lv_icmp_eq (tgt := 1178) hx hb dL_law_1173 (by decide) (fun c_19 => ?_) (fun c_19 => ?_)
              · have hr := pite_p hr c_19
                exact hr aO fO aX fX a_text a_was a_sa a_sb a_sc a_th a_nw a_ms a_sd u_10.2.2.2.1 u_10.2.2.2.2.1 o_kept_marks_numbers o_kept_marks_size o_kept_events_numbers o_kept_events_size o_kept_book_numbers o_kept_book_size o_kept_p o_kept_e o_kept_windowRow o_kept_windowPlace o_kept_seen_numbers o_kept_seen_size o_kept_modulus o_hasImage o_trial_marks_numbers o_trial_marks_size o_trial_seen_numbers o_trial_seen_size o_trial_events_numbers o_trial_events_size o_trial_book_numbers o_trial_book_size o_trial_p o_trial_e o_trial_modulus o_trial_windowRow o_trial_windowPlace o_reader_text o_reader_length o_reader_next o_reader_clauses_numbers o_reader_clauses_size x_now_marks_numbers x_now_marks_size x_now_p x_now_e x_now_modulus x_now_windowRow x_now_windowPlace text was sa sb sc th ms u_13 H locs ls (hD.fst rfl) hP hS (lv_sub hl [0, 1, 4] rfl)
              · have hr := pite_n hr c_19
                refine lv_iconst (v := (0 : Int32)) hx hb dL_law_1176 (by decide) ?_
                refine tp_ hr.symm ?_
                refine W.widen (k := 600000) (n := 7302250) (Nat.le_of_ble_eq_true rfl) (Nat.le_of_ble_eq_true rfl) ?_
                exact va_forget (fun q hq => hS.2.2 q hq) (lw_ret hx hb hrt hlocks dL_law_1177)
set_option maxHeartbeats 8000000 in
set_option maxRecDepth 100000 in
theorem blk_1178 {p : Program} {l : Launch} {e : Env} {s : State} {m : MethodId} {below : List Frame} {meth : Method} {c : Code} {dC : Nat → ClassId} {dI : Nat → Nat → Nat} {cI : ClassId} {cJ : ClassId} {b : Nat} {L : Nat} {xs : Nat → Int32} (C : LC p s m meth c dC dI cI cJ b L xs) (o_now_marks_numbers : Nat → Int32) (o_now_marks_size : Int32) (o_now_p : Int32) (o_now_e : Int32) (o_now_modulus : Int32) (o_now_windowRow : Int32) (o_now_windowPlace : Int32) (o_now_events_numbers : Nat → Int32) (o_now_events_size : Int32) (o_now_book_numbers : Nat → Int32) (o_now_book_size : Int32) (nw : Nat → Int32) (hr : wp_1178 (WW_1217 p l e s m below meth c dC dI cI cJ b) L xs o_now_marks_numbers o_now_marks_size o_now_p o_now_e o_now_modulus o_now_windowRow o_now_windowPlace o_now_events_numbers o_now_events_size o_now_book_numbers o_now_book_size nw) : WW_1178 p l e s m below meth c dC dI cI cJ b o_now_marks_numbers o_now_marks_size o_now_p o_now_e o_now_modulus o_now_windowRow o_now_windowPlace o_now_events_numbers o_now_events_size o_now_book_numbers o_now_book_size nw := by
  obtain ⟨hx, hb, hrt, hml, hown, hts, hX, hbl, hlocks, hE⟩ := C
  have hK := hE.1
  have hA : ∀ q : Nat, s.heap.size ≤ q → (fun q : Nat => s.heap.size ≤ q) q := fun _ h => h
  have hbA : ¬ (fun q : Nat => s.heap.size ≤ q) b := Nat.not_le.mpr hbl
  intro aO fO aX fX a_text a_was a_sa a_sb a_sc a_th a_nw a_ms a_sd o_now_seen_numbers o_now_seen_size o_kept_marks_numbers o_kept_marks_size o_kept_events_numbers o_kept_events_size o_kept_book_numbers o_kept_book_size o_kept_p o_kept_e o_kept_windowRow o_kept_windowPlace o_kept_seen_numbers o_kept_seen_size o_kept_modulus o_hasImage o_trial_marks_numbers o_trial_marks_size o_trial_seen_numbers o_trial_seen_size o_trial_events_numbers o_trial_events_size o_trial_book_numbers o_trial_book_size o_trial_p o_trial_e o_trial_modulus o_trial_windowRow o_trial_windowPlace o_reader_text o_reader_length o_reader_next o_reader_clauses_numbers o_reader_clauses_size x_now_marks_numbers x_now_marks_size x_now_p x_now_e x_now_modulus x_now_windowRow x_now_windowPlace text was sa sb sc th ms sd H locs ls hD hP hS hl
  unfold wp_1178 at hr
  refine lv_aload_n hx hb dL_law_1178 rfl (lv_at hl 0 rfl) ?_
  refine lv_sipush (v := (131 : Int32)) hx hb dL_law_1179 (by decide) ?_
  obtain ⟨u_1, hu_1, hr⟩ := pbd_e hr
  refine ro_SXc ⟨hx, hb, hml, hown, hts⟩ (k_L_cell l dC dI cI cJ b (131 : Int32) L xs u_1 hu_1) (va_cwS 2 hts gL_law_L_cell rfl rfl rfl (by decide +kernel) ⟨(Nat.le_of_ble_eq_true rfl), (Nat.le_of_ble_eq_true rfl)⟩) hE (va_X_at hX hbl hbA hS) rfl hl.1 rfl (Nat.le_of_ble_eq_true rfl) dL_law_1182 ⟨(Nat.le_of_ble_eq_true rfl), (Nat.le_of_ble_eq_true rfl)⟩ ?_
  refine lv_bipush (v := (127 : Int32)) hx hb dL_law_1185 (by decide) ?_
  refine lv_iand hx hb dL_law_1187 ?_
  refine lv_bipush (v := (50 : Int32)) hx hb dL_law_1188 (by decide) ?_
  obtain ⟨d_2, ed_2, hd_2, hr⟩ := pmd_e hr
  refine lv_irem hx hb dL_law_1190 hd_2 ?_
  refine tp_ ed_2 ?_
  refine lv_istore (lv' := [(15, .int d_2), (0, .ref b), (1, .ref aO), (11, .ref a_nw)]) hx hb dL_law_1191 hl (by decide) rfl (fun ls hl => ?_)
  refine lv_aload_n hx hb dL_law_1193 rfl (lv_at hl 2 rfl) ?_
  refine lv_iconst (v := (2 : Int32)) hx hb dL_law_1194 (by decide) ?_
  refine lv_iconst (v := (1 : Int32)) hx hb dL_law_1195 (by decide) ?_
  refine lv_iload hx hb dL_law_1196 (lv_at hl 0 rfl) ?_
  refine lv_iconst (v := (1 : Int32)) hx hb dL_law_1198 (by decide) ?_
  refine lv_iadd hx hb dL_law_1199 ?_
  obtain ⟨u_3, hu_3, hr⟩ := pbd_e hr
  refine mu_X ⟨hx, hb, hml, hown, hts⟩ (k_X6_tape l dC dI cI cJ aO (fO 0) (fO 2) (fO 11) (fO 20) (fO 29) (fO 33) (fO 34) (fO 35) (fO 36) (2 : Int32) (1 : Int32) (d_2 + (1 : Int32)) o_hasImage so6 (fun _ => (0 : Int32)) (fun _ => (0 : Int64)) H.size u_3 hu_3) (cwV 3 hts gL_law_X6_tape rfl rfl rfl (by decide +kernel) ⟨(Nat.le_of_ble_eq_true rfl), (Nat.le_of_ble_eq_true rfl)⟩) hE 0 rfl rfl rfl rfl hl.1 rfl (Nat.le_of_ble_eq_true rfl) dL_law_1200 ⟨(Nat.le_of_ble_eq_true rfl), (Nat.le_of_ble_eq_true rfl)⟩ hP (hD.fst rfl) hS hA [true, false, false, false, false, false, false, false, false, false, false, false, false, false, false, false, false, false, false, false, false, false, false, false, false, false, false, false, false, false, false, false, false, false, true, true, true, true] rfl (W1 := (wo cI cJ aO fO o_hasImage h6 o_now_p o_now_e o_now_modulus o_now_windowRow o_now_windowPlace o_now_marks_size o_now_marks_numbers o_now_seen_size o_now_seen_numbers o_now_events_size o_now_events_numbers o_now_book_size o_now_book_numbers o_kept_p o_kept_e o_kept_modulus o_kept_windowRow o_kept_windowPlace o_kept_marks_size o_kept_marks_numbers o_kept_seen_size o_kept_seen_numbers o_kept_events_size o_kept_events_numbers o_kept_book_size o_kept_book_numbers o_trial_p o_trial_e o_trial_modulus o_trial_windowRow o_trial_windowPlace o_trial_marks_size o_trial_marks_numbers o_trial_seen_size o_trial_seen_numbers o_trial_events_size o_trial_events_numbers o_trial_book_size o_trial_book_numbers o_reader_length o_reader_next o_reader_text o_reader_clauses_size o_reader_clauses_numbers u_3.2.1 u_3.2.2.1 u_3.2.2.2 (wo cI cJ aX fX (0 : Int32) h6 x_now_p x_now_e x_now_modulus x_now_windowRow x_now_windowPlace x_now_marks_size x_now_marks_numbers (0 : Int32) (fun _ => (0 : Int32)) (0 : Int32) (fun _ => (0 : Int32)) (0 : Int32) (fun _ => (0 : Int32)) (2 : Int32) (1 : Int32) (2 : Int32) (0 : Int32) (0 : Int32) (0 : Int32) (fun _ => (0 : Int32)) (0 : Int32) (fun _ => (0 : Int32)) (0 : Int32) (fun _ => (0 : Int32)) (0 : Int32) (fun _ => (0 : Int32)) (2 : Int32) (1 : Int32) (2 : Int32) (0 : Int32) (0 : Int32) (0 : Int32) (fun _ => (0 : Int32)) (0 : Int32) (fun _ => (0 : Int32)) (0 : Int32) (fun _ => (0 : Int32)) (0 : Int32) (fun _ => (0 : Int32)) (0 : Int32) (0 : Int32) (fun _ => (0 : Int32)) (0 : Int32) (fun _ => (0 : Int32)) so6 (fun _ => (0 : Int32)) (fun _ => (0 : Int64)) [(a_text, .inl (cI, 120, .inl text)), (a_was, .inl (cI, 20, .inl was)), (a_sa, .inl (cI, 20, .inl sa)), (a_sb, .inl (cI, 20, .inl sb)), (a_sc, .inl (cI, 20, .inl sc)), (a_th, .inl (cI, 3, .inl th)), (a_nw, .inl (cI, 20, .inl nw)), (a_ms, .inl (cI, 12, .inl ms)), (a_sd, .inl (cI, 20, .inl sd))]))) rfl (fun H locs hP hS => W.eq (g2 := F0 m 1203 ls [.int u_3.1]) rfl ?_)
  refine lv_iconst (v := (1 : Int32)) hx hb dL_law_1203 (by decide) ?_
  have hJ_4 : ∀ (y_5 : Int32) (ey_5 : y_5 = (if (u_3.1 = (1 : Int32)) then (1 : Int32) else (0 : Int32))) (ls : Array Slot), lv_has ls 21 [(0, .ref b), (1, .ref aO), (11, .ref a_nw), (15, .int d_2)] → W p l e room_1 s m #[Value.ref b] below meth c H locs 85 10201 (lw_Z below #[Value.ref b] s) (F0 m 1212 ls [.int y_5]) := by
    intro y_5 ey_5 ls hl
    subst ey_5
    refine lv_istore (lv' := [(16, .int (if (u_3.1 = (1 : Int32)) then (1 : Int32) else (0 : Int32))), (0, .ref b), (1, .ref aO), (11, .ref a_nw), (15, .int d_2)]) hx hb dL_law_1212 hl (by decide) rfl (fun ls hl => ?_)
    refine lv_iconst (v := (0 : Int32)) hx hb dL_law_1214 (by decide) ?_
    refine lv_istore (lv' := [(17, .int (0 : Int32)), (16, .int (if (u_3.1 = (1 : Int32)) then (1 : Int32) else (0 : Int32))), (0, .ref b), (1, .ref aO), (11, .ref a_nw), (15, .int d_2)]) hx hb dL_law_1215 hl (by decide) rfl (fun ls hl => ?_)
    exact hr aO fO aX fX a_text a_was a_sa a_sb a_sc a_th a_nw a_ms a_sd o_now_events_numbers o_now_events_size o_now_seen_numbers o_now_seen_size o_kept_marks_numbers o_kept_marks_size o_kept_events_numbers o_kept_events_size o_kept_book_numbers o_kept_book_size o_kept_p o_kept_e o_kept_windowRow o_kept_windowPlace o_kept_seen_numbers o_kept_seen_size o_kept_modulus o_hasImage o_trial_marks_numbers o_trial_marks_size o_trial_seen_numbers o_trial_seen_size o_trial_events_numbers o_trial_events_size o_trial_book_numbers o_trial_book_size o_trial_p o_trial_e o_trial_modulus o_trial_windowRow o_trial_windowPlace o_reader_text o_reader_length o_reader_next o_reader_clauses_numbers o_reader_clauses_size x_now_marks_numbers x_now_marks_size x_now_p x_now_e x_now_modulus x_now_windowRow x_now_windowPlace text was sa sb sc th ms sd H locs ls (hD.fst rfl) hP hS (lv_sub hl [2, 3, 4, 5, 1, 0] rfl)
  refine lv_icmp_ne (tgt := 1211) hx hb dL_law_1204 (by decide) (fun c_6 => ?_) (fun c_6 => ?_)
  · refine lv_iconst (v := (0 : Int32)) hx hb dL_law_1211 (by decide) ?_
    exact hJ_4 _ (if_neg c_6).symm ls (lv_sub hl [1, 2, 3, 0] rfl)
  · refine lv_iconst (v := (1 : Int32)) hx hb dL_law_1207 (by decide) ?_
    refine lv_goto (tgt := 1212) hx hb dL_law_1208 (by decide) ?_
    exact hJ_4 _ (if_pos c_6).symm ls (lv_sub hl [1, 2, 3, 0] rfl)
