/-! X6_prime -/
def rmX6_prime : Room := { frames := 2, cells := 0, slots := 0, locals := 45 }
set_option maxHeartbeats 4000000 in
set_option maxRecDepth 100000 in
theorem k_X6_prime (l : Launch) (dC : Nat → ClassId) (dI : Nat → Nat → Nat) (cI cJ : ClassId) (a_o : Nat) (a_o_triangle : Nat) (a_o_now : Nat) (a_o_kept : Nat) (a_o_trial : Nat) (a_o_reader : Nat) (a_o_tapes : Nat) (a_o_now_marks : Nat) (a_o_now_seen : Nat) (a_o_now_events : Nat) (a_o_now_book : Nat) (p0 : Int32) (o_hasImage : Int32) (o_now_p : Int32) (o_now_e : Int32) (o_now_modulus : Int32) (o_now_windowRow : Int32) (o_now_windowPlace : Int32) (sz : Nat) (r : Int32 × Int32 × Int32 × Int32) (hr : f_X6_prime p0 o_now_p o_now_e o_now_modulus = some r) : Met l yX6_prime wsX6_prime rmX6_prime (va_Pc [.ref a_o, .int p0] (pM (dC, dI) cI cJ [(a_o, .inr (5, [.ref a_o_triangle, .ref a_o_now, .ref a_o_kept, .ref a_o_trial, .ref a_o_reader, .ref a_o_tapes, .int o_hasImage])), (a_o_now, .inr (2, [.ref a_o_triangle, .ref a_o_now_marks, .ref a_o_now_seen, .ref a_o_now_events, .ref a_o_now_book, .int o_now_p, .int o_now_e, .int o_now_modulus, .int o_now_windowRow, .int o_now_windowPlace]))] sz)) (qM (some (.int r.1)) (dC, dI) [(a_o, .inr (5, [.ref a_o_triangle, .ref a_o_now, .ref a_o_kept, .ref a_o_trial, .ref a_o_reader, .ref a_o_tapes, .int o_hasImage])), (a_o_now, .inr (2, [.ref a_o_triangle, .ref a_o_now_marks, .ref a_o_now_seen, .ref a_o_now_events, .ref a_o_now_book, .int r.2.1, .int r.2.2.1, .int r.2.2.2, .int o_now_windowRow, .int o_now_windowPlace]))] (va_A [(a_o, .inr (5, [.ref a_o_triangle, .ref a_o_now, .ref a_o_kept, .ref a_o_trial, .ref a_o_reader, .ref a_o_tapes, .int o_hasImage])), (a_o_now, .inr (2, [.ref a_o_triangle, .ref a_o_now_marks, .ref a_o_now_seen, .ref a_o_now_events, .ref a_o_now_book, .int o_now_p, .int o_now_e, .int o_now_modulus, .int o_now_windowRow, .int o_now_windowPlace]))] sz)) 0 0 (va_A [(a_o, .inr (5, [.ref a_o_triangle, .ref a_o_now, .ref a_o_kept, .ref a_o_trial, .ref a_o_reader, .ref a_o_tapes, .int o_hasImage])), (a_o_now, .inr (2, [.ref a_o_triangle, .ref a_o_now_marks, .ref a_o_now_seen, .ref a_o_now_events, .ref a_o_now_book, .int o_now_p, .int o_now_e, .int o_now_modulus, .int o_now_windowRow, .int o_now_windowPlace]))] sz) := by
  refine mu_of (cc := cX6_prime) (maxL := 3) (by decide) rfl (Nat.le_of_ble_eq_true rfl) ?_
  intro p e s m args below meth c Q ls A hx hb hml hown hts hE hP hD hA hrt hlocks hret hl
  have hK := hE.1
  have hS : va_S A s.heap s.heap [] := va_S.rf
  have hl : lv_has ls 3 [(0, .ref a_o), (1, .int p0)] := hl
  unfold f_X6_prime at hr
  obtain ⟨H, hHe⟩ : ∃ H, H = s.heap := ⟨_, rfl⟩
  obtain ⟨locs, hLe⟩ : ∃ locs : List Loc, locs = [] := ⟨_, rfl⟩
  suffices hgo : va_P (dC, dI) vwCl [(a_o, .inr (5, [.ref a_o_triangle, .ref a_o_now, .ref a_o_kept, .ref a_o_trial, .ref a_o_reader, .ref a_o_tapes, .int o_hasImage])), (a_o_now, .inr (2, [.ref a_o_triangle, .ref a_o_now_marks, .ref a_o_now_seen, .ref a_o_now_events, .ref a_o_now_book, .int o_now_p, .int o_now_e, .int o_now_modulus, .int o_now_windowRow, .int o_now_windowPlace]))] H → va_S A s.heap H locs → W p l e rmX6_prime s m args below meth c H locs 0 0 Q (F0 m 0 ls []) by
    subst hHe; subst hLe; exact hgo hP hS
  clear hP hS hHe hLe
  intro hP hS
  have iX3 : ∀ w ∈ wsX30, w ∈ wsX6_prime := memr_ (big := wsX6_prime) wsX30 [21, 22, 23, 24, 25, 26, 27, 28, 29, 30] (by decide +kernel)
  have iX6 : ∀ w ∈ wsX60, w ∈ wsX6_prime := memr_ (big := wsX6_prime) wsX60 [14, 15, 16, 17, 18, 19, 20] (by decide +kernel)
  refine lv_iload_n hx hb dX6_prime_0 rfl (lv_at hl 1 rfl) ?_
  refine lv_iconst (v := (2 : Int32)) hx hb dX6_prime_1 (by decide) ?_
  have tT_2 : ((¬ (p0 = (2 : Int32))) ∧ ((¬ (p0 = (3 : Int32))) ∧ ((¬ (p0 = (5 : Int32))) ∧ (¬ (p0 = (7 : Int32)))))) → W p l e rmX6_prime s m args below meth c H locs 0 0 Q (F0 m 21 ls []) := by
    intro hc_1
    have hr := ite_p hr hc_1
    refine lv_bipush (v := (-2 : Int32)) hx hb dX6_prime_21 (by decide) ?_
    obtain rfl := Option.some.inj hr
    exact hret H locs _ hP hS (fun Qc free hq hf => W.iret hx hb hrt hq hf dX6_prime_23 hlocks)
  have tF_3 : ¬ ((¬ (p0 = (2 : Int32))) ∧ ((¬ (p0 = (3 : Int32))) ∧ ((¬ (p0 = (5 : Int32))) ∧ (¬ (p0 = (7 : Int32)))))) → W p l e rmX6_prime s m args below meth c H locs 0 0 Q (F0 m 24 ls []) := by
    intro hc_1
    have hr := ite_n hr hc_1
    refine lv_aload_n hx hb dX6_prime_24 rfl (lv_at hl 0 rfl) ?_
    refine va_get (D := (dC, dI)) (ci := 5) (v := .ref a_o_now) (C := RX6) (T := TX6) (N := 7) hx hb hts iX6 hown hK hP 0 rfl rfl 1 (by decide) (hts (.fieldLink RX6 23 "PascalRows" "now" "LPascalRows$Setup;") (List.mem_of_getElem? (i := 1) rfl)) (fun _ h9 => h9) rfl dX6_prime_25 ?_
    refine va_getN (host := "PascalRows") (D := (dC, dI)) (ci := 2) (v := .int o_now_p) (C := RX3) (T := TX3) (N := 10) hx hb hts iX3 hown hK hP 1 rfl rfl 5 (by decide) (hE.nest 5 rfl rfl) (fun _ h9 => h9) rfl dX6_prime_28 ?_
    refine lv_istore_n (lv' := [(2, .int o_now_p), (0, .ref a_o), (1, .int p0)]) hx hb dX6_prime_31 rfl hl (by decide) rfl (fun ls hl => ?_)
    refine lv_aload_n hx hb dX6_prime_32 rfl (lv_at hl 1 rfl) ?_
    refine va_get (D := (dC, dI)) (ci := 5) (v := .ref a_o_now) (C := RX6) (T := TX6) (N := 7) hx hb hts iX6 hown hK hP 0 rfl rfl 1 (by decide) (hts (.fieldLink RX6 23 "PascalRows" "now" "LPascalRows$Setup;") (List.mem_of_getElem? (i := 1) rfl)) (fun _ h9 => h9) rfl dX6_prime_33 ?_
    refine lv_iload_n hx hb dX6_prime_36 rfl (lv_at hl 2 rfl) ?_
    refine lv_aload_n hx hb dX6_prime_37 rfl (lv_at hl 1 rfl) ?_
    refine va_get (D := (dC, dI)) (ci := 5) (v := .ref a_o_now) (C := RX6) (T := TX6) (N := 7) hx hb hts iX6 hown hK hP 0 rfl rfl 1 (by decide) (hts (.fieldLink RX6 23 "PascalRows" "now" "LPascalRows$Setup;") (List.mem_of_getElem? (i := 1) rfl)) (fun _ h9 => h9) rfl dX6_prime_38 ?_
    refine va_getN (host := "PascalRows") (D := (dC, dI)) (ci := 2) (v := .int o_now_e) (C := RX3) (T := TX3) (N := 10) hx hb hts iX3 hown hK hP 1 rfl rfl 6 (by decide) (hE.nest 6 rfl rfl) (fun _ h9 => h9) rfl dX6_prime_41 ?_
    obtain ⟨u_4, hu_4, hr⟩ := bd_e hr
    refine mu_V ⟨hx, hb, hml, hown, hts⟩ (k_X3_become l dC dI cI cJ a_o_now a_o_triangle a_o_now_marks a_o_now_seen a_o_now_events a_o_now_book p0 o_now_e o_now_p o_now_e o_now_modulus o_now_windowRow o_now_windowPlace H.size u_4 hu_4) (cwV 2 hts gX6_prime_X3_become rfl rfl rfl (by decide +kernel) ⟨Nat.le_of_ble_eq_true rfl, Nat.le_of_ble_eq_true rfl⟩) hE 1 rfl rfl rfl rfl hl.1 rfl (Nat.le_of_ble_eq_true rfl) dX6_prime_44 ⟨Nat.zero_le _, Nat.zero_le _⟩ hP (hD.fst rfl) hS hA [1] [0] [0, 1] rfl rfl (by decide) (by decide) rfl (by decide) (W1 := [(a_o, .inr (5, [.ref a_o_triangle, .ref a_o_now, .ref a_o_kept, .ref a_o_trial, .ref a_o_reader, .ref a_o_tapes, .int o_hasImage])), (a_o_now, .inr (2, [.ref a_o_triangle, .ref a_o_now_marks, .ref a_o_now_seen, .ref a_o_now_events, .ref a_o_now_book, .int u_4.1, .int u_4.2.1, .int u_4.2.2, .int o_now_windowRow, .int o_now_windowPlace]))]) rfl (fun H locs hP hS => W.eq (g2 := F0 m 47 ls []) rfl ?_)
    refine lv_iload_n hx hb dX6_prime_47 rfl (lv_at hl 0 rfl) ?_
    obtain rfl := Option.some.inj hr
    exact hret H locs _ hP hS (fun Qc free hq hf => W.iret hx hb hrt hq hf dX6_prime_48 hlocks)
  refine lv_icmp_eq (tgt := 24) hx hb dX6_prime_2 (by decide) (fun c_5 => ?_) (fun c_5 => ?_)
  · exact tF_3 (fun h => (fun h => h c_5) h.1)
  · refine lv_iload_n hx hb dX6_prime_5 rfl (lv_at hl 1 rfl) ?_
    refine lv_iconst (v := (3 : Int32)) hx hb dX6_prime_6 (by decide) ?_
    refine lv_icmp_eq (tgt := 24) hx hb dX6_prime_7 (by decide) (fun c_6 => ?_) (fun c_6 => ?_)
    · exact tF_3 (fun h => (fun h => (fun h => h c_6) h.1) h.2)
    · refine lv_iload_n hx hb dX6_prime_10 rfl (lv_at hl 1 rfl) ?_
      refine lv_iconst (v := (5 : Int32)) hx hb dX6_prime_11 (by decide) ?_
      refine lv_icmp_eq (tgt := 24) hx hb dX6_prime_12 (by decide) (fun c_7 => ?_) (fun c_7 => ?_)
      · exact tF_3 (fun h => (fun h => (fun h => (fun h => h c_7) h.1) h.2) h.2)
      · refine lv_iload_n hx hb dX6_prime_15 rfl (lv_at hl 1 rfl) ?_
        refine lv_bipush (v := (7 : Int32)) hx hb dX6_prime_16 (by decide) ?_
        refine lv_icmp_eq (tgt := 24) hx hb dX6_prime_18 (by decide) (fun c_8 => ?_) (fun c_8 => ?_)
        · exact tF_3 (fun h => (fun h => (fun h => (fun h => h c_8) h.2) h.2) h.2)
        · exact tT_2 ⟨c_5, ⟨c_6, ⟨c_7, c_8⟩⟩⟩
/-! X6_power -/
def rmX6_power : Room := { frames := 2, cells := 0, slots := 0, locals := 45 }
set_option maxHeartbeats 4000000 in
set_option maxRecDepth 100000 in
theorem k_X6_power (l : Launch) (dC : Nat → ClassId) (dI : Nat → Nat → Nat) (cI cJ : ClassId) (a_o : Nat) (a_o_triangle : Nat) (a_o_now : Nat) (a_o_kept : Nat) (a_o_trial : Nat) (a_o_reader : Nat) (a_o_tapes : Nat) (a_o_now_marks : Nat) (a_o_now_seen : Nat) (a_o_now_events : Nat) (a_o_now_book : Nat) (p0 : Int32) (o_hasImage : Int32) (o_now_p : Int32) (o_now_e : Int32) (o_now_modulus : Int32) (o_now_windowRow : Int32) (o_now_windowPlace : Int32) (sz : Nat) (r : Int32 × Int32 × Int32 × Int32) (hr : f_X6_power p0 o_now_p o_now_e o_now_modulus = some r) : Met l yX6_power wsX6_power rmX6_power (va_Pc [.ref a_o, .int p0] (pM (dC, dI) cI cJ [(a_o, .inr (5, [.ref a_o_triangle, .ref a_o_now, .ref a_o_kept, .ref a_o_trial, .ref a_o_reader, .ref a_o_tapes, .int o_hasImage])), (a_o_now, .inr (2, [.ref a_o_triangle, .ref a_o_now_marks, .ref a_o_now_seen, .ref a_o_now_events, .ref a_o_now_book, .int o_now_p, .int o_now_e, .int o_now_modulus, .int o_now_windowRow, .int o_now_windowPlace]))] sz)) (qM (some (.int r.1)) (dC, dI) [(a_o, .inr (5, [.ref a_o_triangle, .ref a_o_now, .ref a_o_kept, .ref a_o_trial, .ref a_o_reader, .ref a_o_tapes, .int o_hasImage])), (a_o_now, .inr (2, [.ref a_o_triangle, .ref a_o_now_marks, .ref a_o_now_seen, .ref a_o_now_events, .ref a_o_now_book, .int r.2.1, .int r.2.2.1, .int r.2.2.2, .int o_now_windowRow, .int o_now_windowPlace]))] (va_A [(a_o, .inr (5, [.ref a_o_triangle, .ref a_o_now, .ref a_o_kept, .ref a_o_trial, .ref a_o_reader, .ref a_o_tapes, .int o_hasImage])), (a_o_now, .inr (2, [.ref a_o_triangle, .ref a_o_now_marks, .ref a_o_now_seen, .ref a_o_now_events, .ref a_o_now_book, .int o_now_p, .int o_now_e, .int o_now_modulus, .int o_now_windowRow, .int o_now_windowPlace]))] sz)) 0 0 (va_A [(a_o, .inr (5, [.ref a_o_triangle, .ref a_o_now, .ref a_o_kept, .ref a_o_trial, .ref a_o_reader, .ref a_o_tapes, .int o_hasImage])), (a_o_now, .inr (2, [.ref a_o_triangle, .ref a_o_now_marks, .ref a_o_now_seen, .ref a_o_now_events, .ref a_o_now_book, .int o_now_p, .int o_now_e, .int o_now_modulus, .int o_now_windowRow, .int o_now_windowPlace]))] sz) := by
  refine mu_of (cc := cX6_power) (maxL := 3) (by decide) rfl (Nat.le_of_ble_eq_true rfl) ?_
  intro p e s m args below meth c Q ls A hx hb hml hown hts hE hP hD hA hrt hlocks hret hl
  have hK := hE.1
  have hS : va_S A s.heap s.heap [] := va_S.rf
  have hl : lv_has ls 3 [(0, .ref a_o), (1, .int p0)] := hl
  unfold f_X6_power at hr
  obtain ⟨H, hHe⟩ : ∃ H, H = s.heap := ⟨_, rfl⟩
  obtain ⟨locs, hLe⟩ : ∃ locs : List Loc, locs = [] := ⟨_, rfl⟩
  suffices hgo : va_P (dC, dI) vwCl [(a_o, .inr (5, [.ref a_o_triangle, .ref a_o_now, .ref a_o_kept, .ref a_o_trial, .ref a_o_reader, .ref a_o_tapes, .int o_hasImage])), (a_o_now, .inr (2, [.ref a_o_triangle, .ref a_o_now_marks, .ref a_o_now_seen, .ref a_o_now_events, .ref a_o_now_book, .int o_now_p, .int o_now_e, .int o_now_modulus, .int o_now_windowRow, .int o_now_windowPlace]))] H → va_S A s.heap H locs → W p l e rmX6_power s m args below meth c H locs 0 0 Q (F0 m 0 ls []) by
    subst hHe; subst hLe; exact hgo hP hS
  clear hP hS hHe hLe
  intro hP hS
  have iX3 : ∀ w ∈ wsX30, w ∈ wsX6_power := memr_ (big := wsX6_power) wsX30 [25, 26, 27, 28, 29, 30, 31, 32, 33, 34] (by decide +kernel)
  have iX6 : ∀ w ∈ wsX60, w ∈ wsX6_power := memr_ (big := wsX6_power) wsX60 [18, 19, 20, 21, 22, 23, 24] (by decide +kernel)
  refine lv_iload_n hx hb dX6_power_0 rfl (lv_at hl 1 rfl) ?_
  refine lv_iconst (v := (1 : Int32)) hx hb dX6_power_1 (by decide) ?_
  refine lv_iconst (v := (4 : Int32)) hx hb dX6_power_2 (by decide) ?_
  refine ro_S ⟨hx, hb, hml, hown, hts⟩ (k_X6_isWithin l dC dI cI cJ p0 (1 : Int32) (4 : Int32)) (va_cwS 3 hts gX6_power_X6_isWithin rfl rfl rfl (by decide +kernel) ⟨Nat.le_of_ble_eq_true rfl, Nat.le_of_ble_eq_true rfl⟩) hE (hP.sub [] rfl) rfl hl.1 rfl (Nat.le_of_ble_eq_true rfl) dX6_power_3 ⟨Nat.zero_le _, Nat.zero_le _⟩ ?_
  refine lv_if_ne (tgt := 12) hx hb dX6_power_6 (by decide) (fun c_1 => ?_) (fun c_1 => ?_)
  · have hr := ite_n hr c_1
    refine lv_aload_n hx hb dX6_power_12 rfl (lv_at hl 0 rfl) ?_
    refine va_get (D := (dC, dI)) (ci := 5) (v := .ref a_o_now) (C := RX6) (T := TX6) (N := 7) hx hb hts iX6 hown hK hP 0 rfl rfl 1 (by decide) (hts (.fieldLink RX6 23 "PascalRows" "now" "LPascalRows$Setup;") (List.mem_of_getElem? (i := 1) rfl)) (fun _ h9 => h9) rfl dX6_power_13 ?_
    refine va_getN (host := "PascalRows") (D := (dC, dI)) (ci := 2) (v := .int o_now_e) (C := RX3) (T := TX3) (N := 10) hx hb hts iX3 hown hK hP 1 rfl rfl 6 (by decide) (hE.nest 6 rfl rfl) (fun _ h9 => h9) rfl dX6_power_16 ?_
    refine lv_istore_n (lv' := [(2, .int o_now_e), (0, .ref a_o), (1, .int p0)]) hx hb dX6_power_19 rfl hl (by decide) rfl (fun ls hl => ?_)
    refine lv_aload_n hx hb dX6_power_20 rfl (lv_at hl 1 rfl) ?_
    refine va_get (D := (dC, dI)) (ci := 5) (v := .ref a_o_now) (C := RX6) (T := TX6) (N := 7) hx hb hts iX6 hown hK hP 0 rfl rfl 1 (by decide) (hts (.fieldLink RX6 23 "PascalRows" "now" "LPascalRows$Setup;") (List.mem_of_getElem? (i := 1) rfl)) (fun _ h9 => h9) rfl dX6_power_21 ?_
    refine lv_aload_n hx hb dX6_power_24 rfl (lv_at hl 1 rfl) ?_
    refine va_get (D := (dC, dI)) (ci := 5) (v := .ref a_o_now) (C := RX6) (T := TX6) (N := 7) hx hb hts iX6 hown hK hP 0 rfl rfl 1 (by decide) (hts (.fieldLink RX6 23 "PascalRows" "now" "LPascalRows$Setup;") (List.mem_of_getElem? (i := 1) rfl)) (fun _ h9 => h9) rfl dX6_power_25 ?_
    refine va_getN (host := "PascalRows") (D := (dC, dI)) (ci := 2) (v := .int o_now_p) (C := RX3) (T := TX3) (N := 10) hx hb hts iX3 hown hK hP 1 rfl rfl 5 (by decide) (hE.nest 5 rfl rfl) (fun _ h9 => h9) rfl dX6_power_28 ?_
    refine lv_iload_n hx hb dX6_power_31 rfl (lv_at hl 2 rfl) ?_
    obtain ⟨u_2, hu_2, hr⟩ := bd_e hr
    refine mu_V ⟨hx, hb, hml, hown, hts⟩ (k_X3_become l dC dI cI cJ a_o_now a_o_triangle a_o_now_marks a_o_now_seen a_o_now_events a_o_now_book o_now_p p0 o_now_p o_now_e o_now_modulus o_now_windowRow o_now_windowPlace H.size u_2 hu_2) (cwV 2 hts gX6_power_X3_become rfl rfl rfl (by decide +kernel) ⟨Nat.le_of_ble_eq_true rfl, Nat.le_of_ble_eq_true rfl⟩) hE 1 rfl rfl rfl rfl hl.1 rfl (Nat.le_of_ble_eq_true rfl) dX6_power_32 ⟨Nat.zero_le _, Nat.zero_le _⟩ hP (hD.fst rfl) hS hA [1] [0] [0, 1] rfl rfl (by decide) (by decide) rfl (by decide) (W1 := [(a_o, .inr (5, [.ref a_o_triangle, .ref a_o_now, .ref a_o_kept, .ref a_o_trial, .ref a_o_reader, .ref a_o_tapes, .int o_hasImage])), (a_o_now, .inr (2, [.ref a_o_triangle, .ref a_o_now_marks, .ref a_o_now_seen, .ref a_o_now_events, .ref a_o_now_book, .int u_2.1, .int u_2.2.1, .int u_2.2.2, .int o_now_windowRow, .int o_now_windowPlace]))]) rfl (fun H locs hP hS => W.eq (g2 := F0 m 35 ls []) rfl ?_)
    refine lv_iload_n hx hb dX6_power_35 rfl (lv_at hl 0 rfl) ?_
    obtain rfl := Option.some.inj hr
    exact hret H locs _ hP hS (fun Qc free hq hf => W.iret hx hb hrt hq hf dX6_power_36 hlocks)
  · have hr := ite_p hr c_1
    refine lv_bipush (v := (-2 : Int32)) hx hb dX6_power_9 (by decide) ?_
    obtain rfl := Option.some.inj hr
    exact hret H locs _ hP hS (fun Qc free hq hf => W.iret hx hb hrt hq hf dX6_power_11 hlocks)
/-! X6_mark -/
def rmX6_mark : Room := { frames := 1, cells := 0, slots := 0, locals := 24 }
set_option maxHeartbeats 4000000 in
set_option maxRecDepth 100000 in
theorem k_X6_mark (l : Launch) (dC : Nat → ClassId) (dI : Nat → Nat → Nat) (cI cJ : ClassId) (a_o : Nat) (a_o_triangle : Nat) (a_o_now : Nat) (a_o_kept : Nat) (a_o_trial : Nat) (a_o_reader : Nat) (a_o_tapes : Nat) (a_o_now_marks : Nat) (a_o_now_seen : Nat) (a_o_now_events : Nat) (a_o_now_book : Nat) (a_o_now_marks_numbers : Nat) (p0 : Int32) (p1 : Int32) (o_hasImage : Int32) (o_now_p : Int32) (o_now_e : Int32) (o_now_modulus : Int32) (o_now_windowRow : Int32) (o_now_windowPlace : Int32) (o_now_marks_size : Int32) (o_now_marks_numbers : Nat → Int32) (sz : Nat) (r : Int32 × (Nat → Int32) × Int32) (hr : f_X6_mark p0 p1 o_now_marks_numbers o_now_marks_size = some r) : Met l yX6_mark wsX6_mark rmX6_mark (va_Pc [.ref a_o, .int p0, .int p1] (pM (dC, dI) cI cJ [(a_o, .inr (5, [.ref a_o_triangle, .ref a_o_now, .ref a_o_kept, .ref a_o_trial, .ref a_o_reader, .ref a_o_tapes, .int o_hasImage])), (a_o_now, .inr (2, [.ref a_o_triangle, .ref a_o_now_marks, .ref a_o_now_seen, .ref a_o_now_events, .ref a_o_now_book, .int o_now_p, .int o_now_e, .int o_now_modulus, .int o_now_windowRow, .int o_now_windowPlace])), (a_o_now_marks, .inr (0, [.ref a_o_now_marks_numbers, .int o_now_marks_size])), (a_o_now_marks_numbers, .inl (cI, 18, .inl o_now_marks_numbers))] sz)) (qM (some (.int r.1)) (dC, dI) [(a_o, .inr (5, [.ref a_o_triangle, .ref a_o_now, .ref a_o_kept, .ref a_o_trial, .ref a_o_reader, .ref a_o_tapes, .int o_hasImage])), (a_o_now, .inr (2, [.ref a_o_triangle, .ref a_o_now_marks, .ref a_o_now_seen, .ref a_o_now_events, .ref a_o_now_book, .int o_now_p, .int o_now_e, .int o_now_modulus, .int o_now_windowRow, .int o_now_windowPlace])), (a_o_now_marks, .inr (0, [.ref a_o_now_marks_numbers, .int r.2.2])), (a_o_now_marks_numbers, .inl (cI, 18, .inl r.2.1))] (va_A [(a_o, .inr (5, [.ref a_o_triangle, .ref a_o_now, .ref a_o_kept, .ref a_o_trial, .ref a_o_reader, .ref a_o_tapes, .int o_hasImage])), (a_o_now, .inr (2, [.ref a_o_triangle, .ref a_o_now_marks, .ref a_o_now_seen, .ref a_o_now_events, .ref a_o_now_book, .int o_now_p, .int o_now_e, .int o_now_modulus, .int o_now_windowRow, .int o_now_windowPlace])), (a_o_now_marks, .inr (0, [.ref a_o_now_marks_numbers, .int o_now_marks_size])), (a_o_now_marks_numbers, .inl (cI, 18, .inl o_now_marks_numbers))] sz)) 0 0 (va_A [(a_o, .inr (5, [.ref a_o_triangle, .ref a_o_now, .ref a_o_kept, .ref a_o_trial, .ref a_o_reader, .ref a_o_tapes, .int o_hasImage])), (a_o_now, .inr (2, [.ref a_o_triangle, .ref a_o_now_marks, .ref a_o_now_seen, .ref a_o_now_events, .ref a_o_now_book, .int o_now_p, .int o_now_e, .int o_now_modulus, .int o_now_windowRow, .int o_now_windowPlace])), (a_o_now_marks, .inr (0, [.ref a_o_now_marks_numbers, .int o_now_marks_size])), (a_o_now_marks_numbers, .inl (cI, 18, .inl o_now_marks_numbers))] sz) := by
  refine mu_of (cc := cX6_mark) (maxL := 3) (by decide) rfl (Nat.le_of_ble_eq_true rfl) ?_
  intro p e s m args below meth c Q ls A hx hb hml hown hts hE hP hD hA hrt hlocks hret hl
  have hK := hE.1
  have hS : va_S A s.heap s.heap [] := va_S.rf
  have hl : lv_has ls 3 [(0, .ref a_o), (1, .int p0), (2, .int p1)] := hl
  unfold f_X6_mark at hr
  obtain ⟨H, hHe⟩ : ∃ H, H = s.heap := ⟨_, rfl⟩
  obtain ⟨locs, hLe⟩ : ∃ locs : List Loc, locs = [] := ⟨_, rfl⟩
  suffices hgo : va_P (dC, dI) vwCl [(a_o, .inr (5, [.ref a_o_triangle, .ref a_o_now, .ref a_o_kept, .ref a_o_trial, .ref a_o_reader, .ref a_o_tapes, .int o_hasImage])), (a_o_now, .inr (2, [.ref a_o_triangle, .ref a_o_now_marks, .ref a_o_now_seen, .ref a_o_now_events, .ref a_o_now_book, .int o_now_p, .int o_now_e, .int o_now_modulus, .int o_now_windowRow, .int o_now_windowPlace])), (a_o_now_marks, .inr (0, [.ref a_o_now_marks_numbers, .int o_now_marks_size])), (a_o_now_marks_numbers, .inl (cI, 18, .inl o_now_marks_numbers))] H → va_S A s.heap H locs → W p l e rmX6_mark s m args below meth c H locs 0 0 Q (F0 m 0 ls []) by
    subst hHe; subst hLe; exact hgo hP hS
  clear hP hS hHe hLe
  intro hP hS
  have iX1 : ∀ w ∈ wsX10, w ∈ wsX6_mark := memr_ (big := wsX6_mark) wsX10 [30, 31] (by decide +kernel)
  have iX3 : ∀ w ∈ wsX30, w ∈ wsX6_mark := memr_ (big := wsX6_mark) wsX30 [20, 21, 22, 23, 24, 25, 26, 27, 28, 29] (by decide +kernel)
  have iX6 : ∀ w ∈ wsX60, w ∈ wsX6_mark := memr_ (big := wsX6_mark) wsX60 [13, 14, 15, 16, 17, 18, 19] (by decide +kernel)
  refine lv_iload_n hx hb dX6_mark_0 rfl (lv_at hl 1 rfl) ?_
  refine lv_iconst (v := (0 : Int32)) hx hb dX6_mark_1 (by decide) ?_
  refine lv_iconst (v := (4 : Int32)) hx hb dX6_mark_2 (by decide) ?_
  refine ro_S ⟨hx, hb, hml, hown, hts⟩ (k_X6_isWithin l dC dI cI cJ p0 (0 : Int32) (4 : Int32)) (va_cwS 3 hts gX6_mark_X6_isWithin rfl rfl rfl (by decide +kernel) ⟨Nat.le_of_ble_eq_true rfl, Nat.le_of_ble_eq_true rfl⟩) hE (hP.sub [] rfl) rfl hl.1 rfl (Nat.le_of_ble_eq_true rfl) dX6_mark_3 ⟨Nat.zero_le _, Nat.zero_le _⟩ ?_
  refine lv_if_ne (tgt := 11) hx hb dX6_mark_6 (by decide) (fun c_1 => ?_) (fun c_1 => ?_)
  · have hr := ite_n hr c_1
    refine lv_iload_n hx hb dX6_mark_11 rfl (lv_at hl 2 rfl) ?_
    refine lv_iconst (v := (0 : Int32)) hx hb dX6_mark_12 (by decide) ?_
    refine lv_sipush (v := (2400 : Int32)) hx hb dX6_mark_13 (by decide) ?_
    refine ro_S ⟨hx, hb, hml, hown, hts⟩ (k_X6_isWithin l dC dI cI cJ p1 (0 : Int32) (2400 : Int32)) (va_cwS 3 hts gX6_mark_X6_isWithin rfl rfl rfl (by decide +kernel) ⟨Nat.le_of_ble_eq_true rfl, Nat.le_of_ble_eq_true rfl⟩) hE (hP.sub [] rfl) rfl hl.1 rfl (Nat.le_of_ble_eq_true rfl) dX6_mark_16 ⟨Nat.zero_le _, Nat.zero_le _⟩ ?_
    refine lv_if_ne (tgt := 25) hx hb dX6_mark_19 (by decide) (fun c_2 => ?_) (fun c_2 => ?_)
    · have hr := ite_n hr c_2
      refine lv_aload_n hx hb dX6_mark_25 rfl (lv_at hl 0 rfl) ?_
      refine va_get (D := (dC, dI)) (ci := 5) (v := .ref a_o_now) (C := RX6) (T := TX6) (N := 7) hx hb hts iX6 hown hK hP 0 rfl rfl 1 (by decide) (hts (.fieldLink RX6 23 "PascalRows" "now" "LPascalRows$Setup;") (List.mem_of_getElem? (i := 1) rfl)) (fun _ h9 => h9) rfl dX6_mark_26 ?_
      refine va_getN (host := "PascalRows") (D := (dC, dI)) (ci := 2) (v := .ref a_o_now_marks) (C := RX3) (T := TX3) (N := 10) hx hb hts iX3 hown hK hP 1 rfl rfl 1 (by decide) (hE.nest 7 rfl rfl) (fun _ h9 => h9) rfl dX6_mark_29 ?_
      refine lv_iload_n hx hb dX6_mark_32 rfl (lv_at hl 1 rfl) ?_
      refine lv_iload_n hx hb dX6_mark_33 rfl (lv_at hl 2 rfl) ?_
      refine lv_iconst (v := (0 : Int32)) hx hb dX6_mark_34 (by decide) ?_
      obtain ⟨u_3, hu_3, hr⟩ := bd_e hr
      refine mu_V ⟨hx, hb, hml, hown, hts⟩ (k_X1_add l dC dI cI cJ a_o_now_marks a_o_now_marks_numbers p0 p1 (0 : Int32) 18 o_now_marks_size o_now_marks_numbers H.size u_3 hu_3) (cwV 3 hts gX6_mark_X1_add rfl rfl rfl (by decide +kernel) ⟨Nat.le_of_ble_eq_true rfl, Nat.le_of_ble_eq_true rfl⟩) hE 2 rfl rfl rfl rfl hl.1 rfl (Nat.le_of_ble_eq_true rfl) dX6_mark_35 ⟨Nat.zero_le _, Nat.zero_le _⟩ hP (hD.fst rfl) hS hA [2, 3] [0, 1] [0, 1, 2, 3] rfl rfl (by decide) (by decide) rfl (by decide) (W1 := [(a_o, .inr (5, [.ref a_o_triangle, .ref a_o_now, .ref a_o_kept, .ref a_o_trial, .ref a_o_reader, .ref a_o_tapes, .int o_hasImage])), (a_o_now, .inr (2, [.ref a_o_triangle, .ref a_o_now_marks, .ref a_o_now_seen, .ref a_o_now_events, .ref a_o_now_book, .int o_now_p, .int o_now_e, .int o_now_modulus, .int o_now_windowRow, .int o_now_windowPlace])), (a_o_now_marks, .inr (0, [.ref a_o_now_marks_numbers, .int u_3.2.2])), (a_o_now_marks_numbers, .inl (cI, 18, .inl u_3.2.1))]) rfl (fun H locs hP hS => W.eq (g2 := F0 m 38 ls [.int u_3.1]) rfl ?_)
      obtain rfl := Option.some.inj hr
      exact hret H locs _ hP hS (fun Qc free hq hf => W.iret hx hb hrt hq hf dX6_mark_38 hlocks)
    · have hr := ite_p hr c_2
      refine lv_bipush (v := (-2 : Int32)) hx hb dX6_mark_22 (by decide) ?_
      obtain rfl := Option.some.inj hr
      exact hret H locs _ hP hS (fun Qc free hq hf => W.iret hx hb hrt hq hf dX6_mark_24 hlocks)
  · have hr := ite_p hr c_1
    refine lv_iconst (v := (-1 : Int32)) hx hb dX6_mark_9 (by decide) ?_
    obtain rfl := Option.some.inj hr
    exact hret H locs _ hP hS (fun Qc free hq hf => W.iret hx hb hrt hq hf dX6_mark_10 hlocks)
/-! X6_clear -/
def rmX6_clear : Room := { frames := 1, cells := 0, slots := 0, locals := 20 }
set_option maxHeartbeats 4000000 in
set_option maxRecDepth 100000 in
theorem k_X6_clear (l : Launch) (dC : Nat → ClassId) (dI : Nat → Nat → Nat) (cI cJ : ClassId) (a_o : Nat) (a_o_triangle : Nat) (a_o_now : Nat) (a_o_kept : Nat) (a_o_trial : Nat) (a_o_reader : Nat) (a_o_tapes : Nat) (a_o_now_marks : Nat) (a_o_now_seen : Nat) (a_o_now_events : Nat) (a_o_now_book : Nat) (a_o_now_marks_numbers : Nat) (o_hasImage : Int32) (o_now_p : Int32) (o_now_e : Int32) (o_now_modulus : Int32) (o_now_windowRow : Int32) (o_now_windowPlace : Int32) (o_now_marks_size : Int32) (sz : Nat) (r : Int32 × Int32) (hr : f_X6_clear o_now_marks_size = some r) : Met l yX6_clear wsX6_clear rmX6_clear (va_Pc [.ref a_o] (pM (dC, dI) cI cJ [(a_o, .inr (5, [.ref a_o_triangle, .ref a_o_now, .ref a_o_kept, .ref a_o_trial, .ref a_o_reader, .ref a_o_tapes, .int o_hasImage])), (a_o_now, .inr (2, [.ref a_o_triangle, .ref a_o_now_marks, .ref a_o_now_seen, .ref a_o_now_events, .ref a_o_now_book, .int o_now_p, .int o_now_e, .int o_now_modulus, .int o_now_windowRow, .int o_now_windowPlace])), (a_o_now_marks, .inr (0, [.ref a_o_now_marks_numbers, .int o_now_marks_size]))] sz)) (qM (some (.int r.1)) (dC, dI) [(a_o, .inr (5, [.ref a_o_triangle, .ref a_o_now, .ref a_o_kept, .ref a_o_trial, .ref a_o_reader, .ref a_o_tapes, .int o_hasImage])), (a_o_now, .inr (2, [.ref a_o_triangle, .ref a_o_now_marks, .ref a_o_now_seen, .ref a_o_now_events, .ref a_o_now_book, .int o_now_p, .int o_now_e, .int o_now_modulus, .int o_now_windowRow, .int o_now_windowPlace])), (a_o_now_marks, .inr (0, [.ref a_o_now_marks_numbers, .int r.2]))] (va_A [(a_o, .inr (5, [.ref a_o_triangle, .ref a_o_now, .ref a_o_kept, .ref a_o_trial, .ref a_o_reader, .ref a_o_tapes, .int o_hasImage])), (a_o_now, .inr (2, [.ref a_o_triangle, .ref a_o_now_marks, .ref a_o_now_seen, .ref a_o_now_events, .ref a_o_now_book, .int o_now_p, .int o_now_e, .int o_now_modulus, .int o_now_windowRow, .int o_now_windowPlace])), (a_o_now_marks, .inr (0, [.ref a_o_now_marks_numbers, .int o_now_marks_size]))] sz)) 0 0 (va_A [(a_o, .inr (5, [.ref a_o_triangle, .ref a_o_now, .ref a_o_kept, .ref a_o_trial, .ref a_o_reader, .ref a_o_tapes, .int o_hasImage])), (a_o_now, .inr (2, [.ref a_o_triangle, .ref a_o_now_marks, .ref a_o_now_seen, .ref a_o_now_events, .ref a_o_now_book, .int o_now_p, .int o_now_e, .int o_now_modulus, .int o_now_windowRow, .int o_now_windowPlace])), (a_o_now_marks, .inr (0, [.ref a_o_now_marks_numbers, .int o_now_marks_size]))] sz) := by
  refine mu_of (cc := cX6_clear) (maxL := 2) (by decide) rfl (Nat.le_of_ble_eq_true rfl) ?_
  intro p e s m args below meth c Q ls A hx hb hml hown hts hE hP hD hA hrt hlocks hret hl
  have hK := hE.1
  have hS : va_S A s.heap s.heap [] := va_S.rf
  have hl : lv_has ls 2 [(0, .ref a_o)] := hl
  unfold f_X6_clear at hr
  obtain ⟨H, hHe⟩ : ∃ H, H = s.heap := ⟨_, rfl⟩
  obtain ⟨locs, hLe⟩ : ∃ locs : List Loc, locs = [] := ⟨_, rfl⟩
  suffices hgo : va_P (dC, dI) vwCl [(a_o, .inr (5, [.ref a_o_triangle, .ref a_o_now, .ref a_o_kept, .ref a_o_trial, .ref a_o_reader, .ref a_o_tapes, .int o_hasImage])), (a_o_now, .inr (2, [.ref a_o_triangle, .ref a_o_now_marks, .ref a_o_now_seen, .ref a_o_now_events, .ref a_o_now_book, .int o_now_p, .int o_now_e, .int o_now_modulus, .int o_now_windowRow, .int o_now_windowPlace])), (a_o_now_marks, .inr (0, [.ref a_o_now_marks_numbers, .int o_now_marks_size]))] H → va_S A s.heap H locs → W p l e rmX6_clear s m args below meth c H locs 0 0 Q (F0 m 0 ls []) by
    subst hHe; subst hLe; exact hgo hP hS
  clear hP hS hHe hLe
  intro hP hS
  have iX1 : ∀ w ∈ wsX10, w ∈ wsX6_clear := memr_ (big := wsX6_clear) wsX10 [25, 26] (by decide +kernel)
  have iX3 : ∀ w ∈ wsX30, w ∈ wsX6_clear := memr_ (big := wsX6_clear) wsX30 [15, 16, 17, 18, 19, 20, 21, 22, 23, 24] (by decide +kernel)
  have iX6 : ∀ w ∈ wsX60, w ∈ wsX6_clear := memr_ (big := wsX6_clear) wsX60 [8, 9, 10, 11, 12, 13, 14] (by decide +kernel)
  refine lv_aload_n hx hb dX6_clear_0 rfl (lv_at hl 0 rfl) ?_
  refine va_get (D := (dC, dI)) (ci := 5) (v := .ref a_o_now) (C := RX6) (T := TX6) (N := 7) hx hb hts iX6 hown hK hP 0 rfl rfl 1 (by decide) (hts (.fieldLink RX6 23 "PascalRows" "now" "LPascalRows$Setup;") (List.mem_of_getElem? (i := 1) rfl)) (fun _ h9 => h9) rfl dX6_clear_1 ?_
  refine va_getN (host := "PascalRows") (D := (dC, dI)) (ci := 2) (v := .ref a_o_now_marks) (C := RX3) (T := TX3) (N := 10) hx hb hts iX3 hown hK hP 1 rfl rfl 1 (by decide) (hE.nest 7 rfl rfl) (fun _ h9 => h9) rfl dX6_clear_4 ?_
  refine va_getN (host := "PascalRows") (D := (dC, dI)) (ci := 0) (v := .int o_now_marks_size) (C := RX1) (T := TX1) (N := 2) hx hb hts iX1 hown hK hP 2 rfl rfl 1 (by decide) (hE.nest 8 rfl rfl) (fun _ h9 => h9) rfl dX6_clear_7 ?_
  refine lv_istore_n (lv' := [(1, .int o_now_marks_size), (0, .ref a_o)]) hx hb dX6_clear_10 rfl hl (by decide) rfl (fun ls hl => ?_)
  refine lv_aload_n hx hb dX6_clear_11 rfl (lv_at hl 1 rfl) ?_
  refine va_get (D := (dC, dI)) (ci := 5) (v := .ref a_o_now) (C := RX6) (T := TX6) (N := 7) hx hb hts iX6 hown hK hP 0 rfl rfl 1 (by decide) (hts (.fieldLink RX6 23 "PascalRows" "now" "LPascalRows$Setup;") (List.mem_of_getElem? (i := 1) rfl)) (fun _ h9 => h9) rfl dX6_clear_12 ?_
  refine va_getN (host := "PascalRows") (D := (dC, dI)) (ci := 2) (v := .ref a_o_now_marks) (C := RX3) (T := TX3) (N := 10) hx hb hts iX3 hown hK hP 1 rfl rfl 1 (by decide) (hE.nest 7 rfl rfl) (fun _ h9 => h9) rfl dX6_clear_15 ?_
  obtain ⟨u_1, hu_1, hr⟩ := bd_e hr
  refine mu_V ⟨hx, hb, hml, hown, hts⟩ (k_X1_empty l dC dI cI cJ a_o_now_marks a_o_now_marks_numbers o_now_marks_size H.size u_1 hu_1) (cwV 0 hts gX6_clear_X1_empty rfl rfl rfl (by decide +kernel) ⟨Nat.le_of_ble_eq_true rfl, Nat.le_of_ble_eq_true rfl⟩) hE 2 rfl rfl rfl rfl hl.1 rfl (Nat.le_of_ble_eq_true rfl) dX6_clear_18 ⟨Nat.zero_le _, Nat.zero_le _⟩ hP (hD.fst rfl) hS hA [2] [0, 1] [0, 1, 2] rfl rfl (by decide) (by decide) rfl (by decide) (W1 := [(a_o, .inr (5, [.ref a_o_triangle, .ref a_o_now, .ref a_o_kept, .ref a_o_trial, .ref a_o_reader, .ref a_o_tapes, .int o_hasImage])), (a_o_now, .inr (2, [.ref a_o_triangle, .ref a_o_now_marks, .ref a_o_now_seen, .ref a_o_now_events, .ref a_o_now_book, .int o_now_p, .int o_now_e, .int o_now_modulus, .int o_now_windowRow, .int o_now_windowPlace])), (a_o_now_marks, .inr (0, [.ref a_o_now_marks_numbers, .int u_1]))]) rfl (fun H locs hP hS => W.eq (g2 := F0 m 21 ls []) rfl ?_)
  refine lv_iload_n hx hb dX6_clear_21 rfl (lv_at hl 0 rfl) ?_
  obtain rfl := Option.some.inj hr
  exact hret H locs _ hP hS (fun Qc free hq hf => W.iret hx hb hrt hq hf dX6_clear_22 hlocks)
/-! X6_window -/
def rmX6_window : Room := { frames := 1, cells := 0, slots := 0, locals := 22 }
set_option maxHeartbeats 4000000 in
set_option maxRecDepth 100000 in
theorem k_X6_window (l : Launch) (dC : Nat → ClassId) (dI : Nat → Nat → Nat) (cI cJ : ClassId) (a_o : Nat) (a_o_triangle : Nat) (a_o_now : Nat) (a_o_kept : Nat) (a_o_trial : Nat) (a_o_reader : Nat) (a_o_tapes : Nat) (a_o_now_marks : Nat) (a_o_now_seen : Nat) (a_o_now_events : Nat) (a_o_now_book : Nat) (p0 : Int32) (p1 : Int32) (o_hasImage : Int32) (o_now_p : Int32) (o_now_e : Int32) (o_now_modulus : Int32) (o_now_windowRow : Int32) (o_now_windowPlace : Int32) (sz : Nat) (r : Int32 × Int32 × Int32) (hr : f_X6_window p0 p1 o_now_windowRow o_now_windowPlace = some r) : Met l yX6_window wsX6_window rmX6_window (va_Pc [.ref a_o, .int p0, .int p1] (pM (dC, dI) cI cJ [(a_o, .inr (5, [.ref a_o_triangle, .ref a_o_now, .ref a_o_kept, .ref a_o_trial, .ref a_o_reader, .ref a_o_tapes, .int o_hasImage])), (a_o_now, .inr (2, [.ref a_o_triangle, .ref a_o_now_marks, .ref a_o_now_seen, .ref a_o_now_events, .ref a_o_now_book, .int o_now_p, .int o_now_e, .int o_now_modulus, .int o_now_windowRow, .int o_now_windowPlace]))] sz)) (qM (some (.int r.1)) (dC, dI) [(a_o, .inr (5, [.ref a_o_triangle, .ref a_o_now, .ref a_o_kept, .ref a_o_trial, .ref a_o_reader, .ref a_o_tapes, .int o_hasImage])), (a_o_now, .inr (2, [.ref a_o_triangle, .ref a_o_now_marks, .ref a_o_now_seen, .ref a_o_now_events, .ref a_o_now_book, .int o_now_p, .int o_now_e, .int o_now_modulus, .int r.2.1, .int r.2.2]))] (va_A [(a_o, .inr (5, [.ref a_o_triangle, .ref a_o_now, .ref a_o_kept, .ref a_o_trial, .ref a_o_reader, .ref a_o_tapes, .int o_hasImage])), (a_o_now, .inr (2, [.ref a_o_triangle, .ref a_o_now_marks, .ref a_o_now_seen, .ref a_o_now_events, .ref a_o_now_book, .int o_now_p, .int o_now_e, .int o_now_modulus, .int o_now_windowRow, .int o_now_windowPlace]))] sz)) 0 0 (va_A [(a_o, .inr (5, [.ref a_o_triangle, .ref a_o_now, .ref a_o_kept, .ref a_o_trial, .ref a_o_reader, .ref a_o_tapes, .int o_hasImage])), (a_o_now, .inr (2, [.ref a_o_triangle, .ref a_o_now_marks, .ref a_o_now_seen, .ref a_o_now_events, .ref a_o_now_book, .int o_now_p, .int o_now_e, .int o_now_modulus, .int o_now_windowRow, .int o_now_windowPlace]))] sz) := by
  refine mu_of (cc := cX6_window) (maxL := 4) (by decide) rfl (Nat.le_of_ble_eq_true rfl) ?_
  intro p e s m args below meth c Q ls A hx hb hml hown hts hE hP hD hA hrt hlocks hret hl
  have hK := hE.1
  have hS : va_S A s.heap s.heap [] := va_S.rf
  have hl : lv_has ls 4 [(0, .ref a_o), (1, .int p0), (2, .int p1)] := hl
  unfold f_X6_window at hr
  obtain ⟨H, hHe⟩ : ∃ H, H = s.heap := ⟨_, rfl⟩
  obtain ⟨locs, hLe⟩ : ∃ locs : List Loc, locs = [] := ⟨_, rfl⟩
  suffices hgo : va_P (dC, dI) vwCl [(a_o, .inr (5, [.ref a_o_triangle, .ref a_o_now, .ref a_o_kept, .ref a_o_trial, .ref a_o_reader, .ref a_o_tapes, .int o_hasImage])), (a_o_now, .inr (2, [.ref a_o_triangle, .ref a_o_now_marks, .ref a_o_now_seen, .ref a_o_now_events, .ref a_o_now_book, .int o_now_p, .int o_now_e, .int o_now_modulus, .int o_now_windowRow, .int o_now_windowPlace]))] H → va_S A s.heap H locs → W p l e rmX6_window s m args below meth c H locs 0 0 Q (F0 m 0 ls []) by
    subst hHe; subst hLe; exact hgo hP hS
  clear hP hS hHe hLe
  intro hP hS
  have iX3 : ∀ w ∈ wsX30, w ∈ wsX6_window := memr_ (big := wsX6_window) wsX30 [13, 14, 15, 16, 17, 18, 19, 20, 21, 22] (by decide +kernel)
  have iX6 : ∀ w ∈ wsX60, w ∈ wsX6_window := memr_ (big := wsX6_window) wsX60 [6, 7, 8, 9, 10, 11, 12] (by decide +kernel)
  refine lv_iload_n hx hb dX6_window_0 rfl (lv_at hl 1 rfl) ?_
  refine lv_iconst (v := (0 : Int32)) hx hb dX6_window_1 (by decide) ?_
  refine lv_bipush (v := (127 : Int32)) hx hb dX6_window_2 (by decide) ?_
  refine ro_S ⟨hx, hb, hml, hown, hts⟩ (k_X6_isWithin l dC dI cI cJ p0 (0 : Int32) (127 : Int32)) (va_cwS 3 hts gX6_window_X6_isWithin rfl rfl rfl (by decide +kernel) ⟨Nat.le_of_ble_eq_true rfl, Nat.le_of_ble_eq_true rfl⟩) hE (hP.sub [] rfl) rfl hl.1 rfl (Nat.le_of_ble_eq_true rfl) dX6_window_4 ⟨Nat.zero_le _, Nat.zero_le _⟩ ?_
  have tT_2 : (((f_X6_isWithin p0 (0 : Int32) (127 : Int32)) = 0) ∨ ((f_X6_isWithin p1 (0 : Int32) (127 : Int32)) = 0)) → W p l e rmX6_window s m args below meth c H locs 0 0 Q (F0 m 20 ls []) := by
    intro hc_1
    have hr := ite_p hr hc_1
    refine lv_bipush (v := (-2 : Int32)) hx hb dX6_window_20 (by decide) ?_
    obtain rfl := Option.some.inj hr
    exact hret H locs _ hP hS (fun Qc free hq hf => W.iret hx hb hrt hq hf dX6_window_22 hlocks)
  have tF_3 : ¬ (((f_X6_isWithin p0 (0 : Int32) (127 : Int32)) = 0) ∨ ((f_X6_isWithin p1 (0 : Int32) (127 : Int32)) = 0)) → W p l e rmX6_window s m args below meth c H locs 0 0 Q (F0 m 23 ls []) := by
    intro hc_1
    have hr := ite_n hr hc_1
    refine lv_sipush (v := (1000 : Int32)) hx hb dX6_window_23 (by decide) ?_
    refine lv_aload_n hx hb dX6_window_26 rfl (lv_at hl 0 rfl) ?_
    refine va_get (D := (dC, dI)) (ci := 5) (v := .ref a_o_now) (C := RX6) (T := TX6) (N := 7) hx hb hts iX6 hown hK hP 0 rfl rfl 1 (by decide) (hts (.fieldLink RX6 23 "PascalRows" "now" "LPascalRows$Setup;") (List.mem_of_getElem? (i := 1) rfl)) (fun _ h9 => h9) rfl dX6_window_27 ?_
    refine va_getN (host := "PascalRows") (D := (dC, dI)) (ci := 2) (v := .int o_now_windowRow) (C := RX3) (T := TX3) (N := 10) hx hb hts iX3 hown hK hP 1 rfl rfl 8 (by decide) (hE.nest 10 rfl rfl) (fun _ h9 => h9) rfl dX6_window_30 ?_
    refine lv_imul hx hb dX6_window_33 ?_
    refine lv_aload_n hx hb dX6_window_34 rfl (lv_at hl 0 rfl) ?_
    refine va_get (D := (dC, dI)) (ci := 5) (v := .ref a_o_now) (C := RX6) (T := TX6) (N := 7) hx hb hts iX6 hown hK hP 0 rfl rfl 1 (by decide) (hts (.fieldLink RX6 23 "PascalRows" "now" "LPascalRows$Setup;") (List.mem_of_getElem? (i := 1) rfl)) (fun _ h9 => h9) rfl dX6_window_35 ?_
    refine va_getN (host := "PascalRows") (D := (dC, dI)) (ci := 2) (v := .int o_now_windowPlace) (C := RX3) (T := TX3) (N := 10) hx hb hts iX3 hown hK hP 1 rfl rfl 9 (by decide) (hE.nest 11 rfl rfl) (fun _ h9 => h9) rfl dX6_window_38 ?_
    refine lv_iadd hx hb dX6_window_41 ?_
    refine lv_istore_n (lv' := [(3, .int (((1000 : Int32) * o_now_windowRow) + o_now_windowPlace)), (0, .ref a_o), (1, .int p0), (2, .int p1)]) hx hb dX6_window_42 rfl hl (by decide) rfl (fun ls hl => ?_)
    refine lv_aload_n hx hb dX6_window_43 rfl (lv_at hl 1 rfl) ?_
    refine va_get (D := (dC, dI)) (ci := 5) (v := .ref a_o_now) (C := RX6) (T := TX6) (N := 7) hx hb hts iX6 hown hK hP 0 rfl rfl 1 (by decide) (hts (.fieldLink RX6 23 "PascalRows" "now" "LPascalRows$Setup;") (List.mem_of_getElem? (i := 1) rfl)) (fun _ h9 => h9) rfl dX6_window_44 ?_
    refine lv_iload_n hx hb dX6_window_47 rfl (lv_at hl 2 rfl) ?_
    refine va_putN (host := "PascalRows") (D := (dC, dI)) (ci := 2) (v := .int p0) (ty := .int) (C := RX3) (T := TX3) (N := 10) hx hb hts iX3 tyX3 tyX3_ok nmX3 hown hK hP (hD.fst rfl) hS 1 rfl rfl 8 (by decide) (hE.nest 10 rfl rfl) (fun _ h9 => h9) rfl (by decide +kernel) rfl rfl (Nat.le_of_ble_eq_true rfl) dX6_window_48 (fun H locs hP _ hS => ?_)
    have hP : va_P (dC, dI) vwCl [(a_o, .inr (5, [.ref a_o_triangle, .ref a_o_now, .ref a_o_kept, .ref a_o_trial, .ref a_o_reader, .ref a_o_tapes, .int o_hasImage])), (a_o_now, .inr (2, [.ref a_o_triangle, .ref a_o_now_marks, .ref a_o_now_seen, .ref a_o_now_events, .ref a_o_now_book, .int o_now_p, .int o_now_e, .int o_now_modulus, .int p0, .int o_now_windowPlace]))] H := hP
    refine lv_aload_n hx hb dX6_window_51 rfl (lv_at hl 1 rfl) ?_
    refine va_get (D := (dC, dI)) (ci := 5) (v := .ref a_o_now) (C := RX6) (T := TX6) (N := 7) hx hb hts iX6 hown hK hP 0 rfl rfl 1 (by decide) (hts (.fieldLink RX6 23 "PascalRows" "now" "LPascalRows$Setup;") (List.mem_of_getElem? (i := 1) rfl)) (fun _ h9 => h9) rfl dX6_window_52 ?_
    refine lv_iload_n hx hb dX6_window_55 rfl (lv_at hl 3 rfl) ?_
    refine va_putN (host := "PascalRows") (D := (dC, dI)) (ci := 2) (v := .int p1) (ty := .int) (C := RX3) (T := TX3) (N := 10) hx hb hts iX3 tyX3 tyX3_ok nmX3 hown hK hP (hD.fst rfl) hS 1 rfl rfl 9 (by decide) (hE.nest 11 rfl rfl) (fun _ h9 => h9) rfl (by decide +kernel) rfl rfl (Nat.le_of_ble_eq_true rfl) dX6_window_56 (fun H locs hP _ hS => ?_)
    have hP : va_P (dC, dI) vwCl [(a_o, .inr (5, [.ref a_o_triangle, .ref a_o_now, .ref a_o_kept, .ref a_o_trial, .ref a_o_reader, .ref a_o_tapes, .int o_hasImage])), (a_o_now, .inr (2, [.ref a_o_triangle, .ref a_o_now_marks, .ref a_o_now_seen, .ref a_o_now_events, .ref a_o_now_book, .int o_now_p, .int o_now_e, .int o_now_modulus, .int p0, .int p1]))] H := hP
    refine lv_iload_n hx hb dX6_window_59 rfl (lv_at hl 0 rfl) ?_
    obtain rfl := Option.some.inj hr
    exact hret H locs _ hP hS (fun Qc free hq hf => W.iret hx hb hrt hq hf dX6_window_60 hlocks)
  refine lv_if_eq (tgt := 20) hx hb dX6_window_7 (by decide) (fun c_4 => ?_) (fun c_4 => ?_)
  · exact tT_2 (Or.inl c_4)
  · refine lv_iload_n hx hb dX6_window_10 rfl (lv_at hl 2 rfl) ?_
    refine lv_iconst (v := (0 : Int32)) hx hb dX6_window_11 (by decide) ?_
    refine lv_bipush (v := (127 : Int32)) hx hb dX6_window_12 (by decide) ?_
    refine ro_S ⟨hx, hb, hml, hown, hts⟩ (k_X6_isWithin l dC dI cI cJ p1 (0 : Int32) (127 : Int32)) (va_cwS 3 hts gX6_window_X6_isWithin rfl rfl rfl (by decide +kernel) ⟨Nat.le_of_ble_eq_true rfl, Nat.le_of_ble_eq_true rfl⟩) hE (hP.sub [] rfl) rfl hl.1 rfl (Nat.le_of_ble_eq_true rfl) dX6_window_14 ⟨Nat.zero_le _, Nat.zero_le _⟩ ?_
    refine lv_if_ne (tgt := 23) hx hb dX6_window_17 (by decide) (fun c_5 => ?_) (fun c_5 => ?_)
    · exact tF_3 (fun h => h.elim c_4 c_5)
    · exact tT_2 (Or.inr c_5)
/-! X6_feed -/
def rmX6_feed : Room := { frames := 1, cells := 0, slots := 0, locals := 22 }
set_option maxHeartbeats 4000000 in
set_option maxRecDepth 100000 in
theorem k_X6_feed (l : Launch) (dC : Nat → ClassId) (dI : Nat → Nat → Nat) (cI cJ : ClassId) (a_o : Nat) (a_o_triangle : Nat) (a_o_now : Nat) (a_o_kept : Nat) (a_o_trial : Nat) (a_o_reader : Nat) (a_o_tapes : Nat) (a_o_reader_text : Nat) (a_o_reader_clauses : Nat) (p0 : Int32) (o_hasImage : Int32) (o_reader_length : Int32) (o_reader_next : Int32) (o_reader_text : Nat → Int32) (sz : Nat) (r : Int32 × (Nat → Int32) × Int32) (hr : f_X6_feed p0 o_reader_text o_reader_length = some r) : Met l yX6_feed wsX6_feed rmX6_feed (va_Pc [.ref a_o, .int p0] (pM (dC, dI) cI cJ [(a_o, .inr (5, [.ref a_o_triangle, .ref a_o_now, .ref a_o_kept, .ref a_o_trial, .ref a_o_reader, .ref a_o_tapes, .int o_hasImage])), (a_o_reader, .inr (1, [.ref a_o_reader_text, .ref a_o_reader_clauses, .int o_reader_length, .int o_reader_next])), (a_o_reader_text, .inl (cI, 100, .inl o_reader_text))] sz)) (qM (some (.int r.1)) (dC, dI) [(a_o, .inr (5, [.ref a_o_triangle, .ref a_o_now, .ref a_o_kept, .ref a_o_trial, .ref a_o_reader, .ref a_o_tapes, .int o_hasImage])), (a_o_reader, .inr (1, [.ref a_o_reader_text, .ref a_o_reader_clauses, .int r.2.2, .int o_reader_next])), (a_o_reader_text, .inl (cI, 100, .inl r.2.1))] (va_A [(a_o, .inr (5, [.ref a_o_triangle, .ref a_o_now, .ref a_o_kept, .ref a_o_trial, .ref a_o_reader, .ref a_o_tapes, .int o_hasImage])), (a_o_reader, .inr (1, [.ref a_o_reader_text, .ref a_o_reader_clauses, .int o_reader_length, .int o_reader_next])), (a_o_reader_text, .inl (cI, 100, .inl o_reader_text))] sz)) 0 0 (va_A [(a_o, .inr (5, [.ref a_o_triangle, .ref a_o_now, .ref a_o_kept, .ref a_o_trial, .ref a_o_reader, .ref a_o_tapes, .int o_hasImage])), (a_o_reader, .inr (1, [.ref a_o_reader_text, .ref a_o_reader_clauses, .int o_reader_length, .int o_reader_next])), (a_o_reader_text, .inl (cI, 100, .inl o_reader_text))] sz) := by
  refine mu_of (cc := cX6_feed) (maxL := 2) (by decide) rfl (Nat.le_of_ble_eq_true rfl) ?_
  intro p e s m args below meth c Q ls A hx hb hml hown hts hE hP hD hA hrt hlocks hret hl
  have hK := hE.1
  have hS : va_S A s.heap s.heap [] := va_S.rf
  have hl : lv_has ls 2 [(0, .ref a_o), (1, .int p0)] := hl
  unfold f_X6_feed at hr
  obtain ⟨H, hHe⟩ : ∃ H, H = s.heap := ⟨_, rfl⟩
  obtain ⟨locs, hLe⟩ : ∃ locs : List Loc, locs = [] := ⟨_, rfl⟩
  suffices hgo : va_P (dC, dI) vwCl [(a_o, .inr (5, [.ref a_o_triangle, .ref a_o_now, .ref a_o_kept, .ref a_o_trial, .ref a_o_reader, .ref a_o_tapes, .int o_hasImage])), (a_o_reader, .inr (1, [.ref a_o_reader_text, .ref a_o_reader_clauses, .int o_reader_length, .int o_reader_next])), (a_o_reader_text, .inl (cI, 100, .inl o_reader_text))] H → va_S A s.heap H locs → W p l e rmX6_feed s m args below meth c H locs 0 0 Q (F0 m 0 ls []) by
    subst hHe; subst hLe; exact hgo hP hS
  clear hP hS hHe hLe
  intro hP hS
  have iX2 : ∀ w ∈ wsX20, w ∈ wsX6_feed := memr_ (big := wsX6_feed) wsX20 [20, 21, 22, 23] (by decide +kernel)
  have iX6 : ∀ w ∈ wsX60, w ∈ wsX6_feed := memr_ (big := wsX6_feed) wsX60 [13, 14, 15, 16, 17, 18, 19] (by decide +kernel)
  refine lv_iload_n hx hb dX6_feed_0 rfl (lv_at hl 1 rfl) ?_
  refine lv_iconst (v := (0 : Int32)) hx hb dX6_feed_1 (by decide) ?_
  refine lv_bipush (v := (127 : Int32)) hx hb dX6_feed_2 (by decide) ?_
  refine ro_S ⟨hx, hb, hml, hown, hts⟩ (k_X6_isWithin l dC dI cI cJ p0 (0 : Int32) (127 : Int32)) (va_cwS 3 hts gX6_feed_X6_isWithin rfl rfl rfl (by decide +kernel) ⟨Nat.le_of_ble_eq_true rfl, Nat.le_of_ble_eq_true rfl⟩) hE (hP.sub [] rfl) rfl hl.1 rfl (Nat.le_of_ble_eq_true rfl) dX6_feed_4 ⟨Nat.zero_le _, Nat.zero_le _⟩ ?_
  refine lv_if_eq (tgt := 21) hx hb dX6_feed_7 (by decide) (fun c_1 => ?_) (fun c_1 => ?_)
  · have hr := ite_p hr c_1
    refine lv_bipush (v := (-2 : Int32)) hx hb dX6_feed_21 (by decide) ?_
    obtain rfl := Option.some.inj hr
    exact hret H locs _ hP hS (fun Qc free hq hf => W.iret hx hb hrt hq hf dX6_feed_23 hlocks)
  · have hr := ite_n hr c_1
    refine lv_aload_n hx hb dX6_feed_10 rfl (lv_at hl 0 rfl) ?_
    refine va_get (D := (dC, dI)) (ci := 5) (v := .ref a_o_reader) (C := RX6) (T := TX6) (N := 7) hx hb hts iX6 hown hK hP 0 rfl rfl 4 (by decide) (hts (.fieldLink RX6 36 "PascalRows" "reader" "LPascalRows$Reader;") (List.mem_of_getElem? (i := 1) rfl)) (fun _ h9 => h9) rfl dX6_feed_11 ?_
    refine lv_iload_n hx hb dX6_feed_14 rfl (lv_at hl 1 rfl) ?_
    obtain ⟨u_2, hu_2, hr⟩ := bd_e hr
    refine mu_V ⟨hx, hb, hml, hown, hts⟩ (k_X2_add l dC dI cI cJ a_o_reader a_o_reader_text a_o_reader_clauses p0 o_reader_length o_reader_next o_reader_text H.size u_2 hu_2) (cwV 1 hts gX6_feed_X2_add rfl rfl rfl (by decide +kernel) ⟨Nat.le_of_ble_eq_true rfl, Nat.le_of_ble_eq_true rfl⟩) hE 1 rfl rfl rfl rfl hl.1 rfl (Nat.le_of_ble_eq_true rfl) dX6_feed_15 ⟨Nat.zero_le _, Nat.zero_le _⟩ hP (hD.fst rfl) hS hA [1, 2] [0] [0, 1, 2] rfl rfl (by decide) (by decide) rfl (by decide) (W1 := [(a_o, .inr (5, [.ref a_o_triangle, .ref a_o_now, .ref a_o_kept, .ref a_o_trial, .ref a_o_reader, .ref a_o_tapes, .int o_hasImage])), (a_o_reader, .inr (1, [.ref a_o_reader_text, .ref a_o_reader_clauses, .int u_2.2.2, .int o_reader_next])), (a_o_reader_text, .inl (cI, 100, .inl u_2.2.1))]) rfl (fun H locs hP hS => W.eq (g2 := F0 m 18 ls [.int u_2.1]) rfl ?_)
    refine lv_goto (tgt := 23) hx hb dX6_feed_18 (by decide) ?_
    obtain rfl := Option.some.inj hr
    exact hret H locs _ hP hS (fun Qc free hq hf => W.iret hx hb hrt hq hf dX6_feed_23 hlocks)
/-! X6_doClause -/
def rmX6_doClause : Room := { frames := 3, cells := 0, slots := 0, locals := 67 }
set_option maxHeartbeats 4000000 in
set_option maxRecDepth 100000 in
theorem k_X6_doClause (l : Launch) (dC : Nat → ClassId) (dI : Nat → Nat → Nat) (cI cJ : ClassId) (a_o : Nat) (a_o_triangle : Nat) (a_o_now : Nat) (a_o_kept : Nat) (a_o_trial : Nat) (a_o_reader : Nat) (a_o_tapes : Nat) (a_o_now_marks : Nat) (a_o_now_seen : Nat) (a_o_now_events : Nat) (a_o_now_book : Nat) (a_o_now_marks_numbers : Nat) (p0 : Int32) (p1 : Int32) (p2 : Int32) (o_hasImage : Int32) (o_now_p : Int32) (o_now_e : Int32) (o_now_modulus : Int32) (o_now_windowRow : Int32) (o_now_windowPlace : Int32) (o_now_marks_size : Int32) (o_now_marks_numbers : Nat → Int32) (sz : Nat) (r : Int32 × (Nat → Int32) × Int32 × Int32 × Int32 × Int32 × Int32 × Int32) (hr : f_X6_doClause p0 p1 p2 o_now_marks_numbers o_now_marks_size o_now_p o_now_e o_now_modulus o_now_windowRow o_now_windowPlace = some r) : Met l yX6_doClause wsX6_doClause rmX6_doClause (va_Pc [.ref a_o, .int p0, .int p1, .int p2] (pM (dC, dI) cI cJ [(a_o, .inr (5, [.ref a_o_triangle, .ref a_o_now, .ref a_o_kept, .ref a_o_trial, .ref a_o_reader, .ref a_o_tapes, .int o_hasImage])), (a_o_now, .inr (2, [.ref a_o_triangle, .ref a_o_now_marks, .ref a_o_now_seen, .ref a_o_now_events, .ref a_o_now_book, .int o_now_p, .int o_now_e, .int o_now_modulus, .int o_now_windowRow, .int o_now_windowPlace])), (a_o_now_marks, .inr (0, [.ref a_o_now_marks_numbers, .int o_now_marks_size])), (a_o_now_marks_numbers, .inl (cI, 18, .inl o_now_marks_numbers))] sz)) (qM (some (.int r.1)) (dC, dI) [(a_o, .inr (5, [.ref a_o_triangle, .ref a_o_now, .ref a_o_kept, .ref a_o_trial, .ref a_o_reader, .ref a_o_tapes, .int o_hasImage])), (a_o_now, .inr (2, [.ref a_o_triangle, .ref a_o_now_marks, .ref a_o_now_seen, .ref a_o_now_events, .ref a_o_now_book, .int r.2.2.2.1, .int r.2.2.2.2.1, .int r.2.2.2.2.2.1, .int r.2.2.2.2.2.2.1, .int r.2.2.2.2.2.2.2])), (a_o_now_marks, .inr (0, [.ref a_o_now_marks_numbers, .int r.2.2.1])), (a_o_now_marks_numbers, .inl (cI, 18, .inl r.2.1))] (va_A [(a_o, .inr (5, [.ref a_o_triangle, .ref a_o_now, .ref a_o_kept, .ref a_o_trial, .ref a_o_reader, .ref a_o_tapes, .int o_hasImage])), (a_o_now, .inr (2, [.ref a_o_triangle, .ref a_o_now_marks, .ref a_o_now_seen, .ref a_o_now_events, .ref a_o_now_book, .int o_now_p, .int o_now_e, .int o_now_modulus, .int o_now_windowRow, .int o_now_windowPlace])), (a_o_now_marks, .inr (0, [.ref a_o_now_marks_numbers, .int o_now_marks_size])), (a_o_now_marks_numbers, .inl (cI, 18, .inl o_now_marks_numbers))] sz)) 0 0 (va_A [(a_o, .inr (5, [.ref a_o_triangle, .ref a_o_now, .ref a_o_kept, .ref a_o_trial, .ref a_o_reader, .ref a_o_tapes, .int o_hasImage])), (a_o_now, .inr (2, [.ref a_o_triangle, .ref a_o_now_marks, .ref a_o_now_seen, .ref a_o_now_events, .ref a_o_now_book, .int o_now_p, .int o_now_e, .int o_now_modulus, .int o_now_windowRow, .int o_now_windowPlace])), (a_o_now_marks, .inr (0, [.ref a_o_now_marks_numbers, .int o_now_marks_size])), (a_o_now_marks_numbers, .inl (cI, 18, .inl o_now_marks_numbers))] sz) := by
  refine mu_of (cc := cX6_doClause) (maxL := 4) (by decide) rfl (Nat.le_of_ble_eq_true rfl) ?_
  intro p e s m args below meth c Q ls A hx hb hml hown hts hE hP hD hA hrt hlocks hret hl
  have hK := hE.1
  have hS : va_S A s.heap s.heap [] := va_S.rf
  have hl : lv_has ls 4 [(0, .ref a_o), (1, .int p0), (2, .int p1), (3, .int p2)] := hl
  unfold f_X6_doClause at hr
  obtain ⟨H, hHe⟩ : ∃ H, H = s.heap := ⟨_, rfl⟩
  obtain ⟨locs, hLe⟩ : ∃ locs : List Loc, locs = [] := ⟨_, rfl⟩
  suffices hgo : va_P (dC, dI) vwCl [(a_o, .inr (5, [.ref a_o_triangle, .ref a_o_now, .ref a_o_kept, .ref a_o_trial, .ref a_o_reader, .ref a_o_tapes, .int o_hasImage])), (a_o_now, .inr (2, [.ref a_o_triangle, .ref a_o_now_marks, .ref a_o_now_seen, .ref a_o_now_events, .ref a_o_now_book, .int o_now_p, .int o_now_e, .int o_now_modulus, .int o_now_windowRow, .int o_now_windowPlace])), (a_o_now_marks, .inr (0, [.ref a_o_now_marks_numbers, .int o_now_marks_size])), (a_o_now_marks_numbers, .inl (cI, 18, .inl o_now_marks_numbers))] H → va_S A s.heap H locs → W p l e rmX6_doClause s m args below meth c H locs 0 0 Q (F0 m 0 ls []) by
    subst hHe; subst hLe; exact hgo hP hS
  clear hP hS hHe hLe
  intro hP hS
  have iX1 : ∀ w ∈ wsX10, w ∈ wsX6_doClause := memr_ (big := wsX6_doClause) wsX10 [66, 67] (by decide +kernel)
  have iX3 : ∀ w ∈ wsX30, w ∈ wsX6_doClause := memr_ (big := wsX6_doClause) wsX30 [56, 57, 58, 59, 60, 61, 62, 63, 64, 65] (by decide +kernel)
  have iX6 : ∀ w ∈ wsX60, w ∈ wsX6_doClause := memr_ (big := wsX6_doClause) wsX60 [49, 50, 51, 52, 53, 54, 55] (by decide +kernel)
  refine lv_iload_n hx hb dX6_doClause_0 rfl (lv_at hl 1 rfl) ?_
  by_cases c_1 : p0 = (101 : Int32)
  · have hr := ite_p hr c_1
    refine W.eq (g2 := F0 m 1 ls (.int (101 : Int32) :: [])) (congrArg (fun z => F0 m 1 ls (.int z :: [])) c_1) ?_
    refine lv_lookup (tgt := 50) hx hb dX6_doClause_1 (by decide) (by first | rfl | decide) (by decide) ?_
    refine lv_aload_n hx hb dX6_doClause_50 rfl (lv_at hl 0 rfl) ?_
    refine lv_iload_n hx hb dX6_doClause_51 rfl (lv_at hl 2 rfl) ?_
    obtain ⟨u_2, hu_2, hr⟩ := bd_e hr
    refine mu_V ⟨hx, hb, hml, hown, hts⟩ (k_X6_power l dC dI cI cJ a_o a_o_triangle a_o_now a_o_kept a_o_trial a_o_reader a_o_tapes a_o_now_marks a_o_now_seen a_o_now_events a_o_now_book p1 o_hasImage o_now_p o_now_e o_now_modulus o_now_windowRow o_now_windowPlace H.size u_2 hu_2) (cwV 1 hts gX6_doClause_X6_power rfl rfl rfl (by decide +kernel) ⟨Nat.le_of_ble_eq_true rfl, Nat.le_of_ble_eq_true rfl⟩) hE 0 rfl rfl rfl rfl hl.1 rfl (Nat.le_of_ble_eq_true rfl) dX6_doClause_52 ⟨Nat.zero_le _, Nat.zero_le _⟩ hP (hD.fst rfl) hS hA [0, 1] [2, 3] [2, 3, 0, 1] rfl rfl (by decide) (by decide) rfl (by decide) (W1 := [(a_o, .inr (5, [.ref a_o_triangle, .ref a_o_now, .ref a_o_kept, .ref a_o_trial, .ref a_o_reader, .ref a_o_tapes, .int o_hasImage])), (a_o_now, .inr (2, [.ref a_o_triangle, .ref a_o_now_marks, .ref a_o_now_seen, .ref a_o_now_events, .ref a_o_now_book, .int u_2.2.1, .int u_2.2.2.1, .int u_2.2.2.2, .int o_now_windowRow, .int o_now_windowPlace])), (a_o_now_marks, .inr (0, [.ref a_o_now_marks_numbers, .int o_now_marks_size])), (a_o_now_marks_numbers, .inl (cI, 18, .inl o_now_marks_numbers))]) rfl (fun H locs hP hS => W.eq (g2 := F0 m 55 ls [.int u_2.1]) rfl ?_)
    obtain rfl := Option.some.inj hr
    exact hret H locs _ hP hS (fun Qc free hq hf => W.iret hx hb hrt hq hf dX6_doClause_55 hlocks)
  have hr := ite_n hr c_1
  by_cases c_3 : p0 = (109 : Int32)
  · have hr := ite_p hr c_3
    refine W.eq (g2 := F0 m 1 ls (.int (109 : Int32) :: [])) (congrArg (fun z => F0 m 1 ls (.int z :: [])) c_3) ?_
    refine lv_lookup (tgt := 56) hx hb dX6_doClause_1 (by decide) (by first | rfl | decide) (by decide) ?_
    refine lv_aload_n hx hb dX6_doClause_56 rfl (lv_at hl 0 rfl) ?_
    refine lv_iload_n hx hb dX6_doClause_57 rfl (lv_at hl 2 rfl) ?_
    refine lv_iload_n hx hb dX6_doClause_58 rfl (lv_at hl 3 rfl) ?_
    obtain ⟨u_4, hu_4, hr⟩ := bd_e hr
    refine mu_V ⟨hx, hb, hml, hown, hts⟩ (k_X6_mark l dC dI cI cJ a_o a_o_triangle a_o_now a_o_kept a_o_trial a_o_reader a_o_tapes a_o_now_marks a_o_now_seen a_o_now_events a_o_now_book a_o_now_marks_numbers p1 p2 o_hasImage o_now_p o_now_e o_now_modulus o_now_windowRow o_now_windowPlace o_now_marks_size o_now_marks_numbers H.size u_4 hu_4) (cwV 2 hts gX6_doClause_X6_mark rfl rfl rfl (by decide +kernel) ⟨Nat.le_of_ble_eq_true rfl, Nat.le_of_ble_eq_true rfl⟩) hE 0 rfl rfl rfl rfl hl.1 rfl (Nat.le_of_ble_eq_true rfl) dX6_doClause_59 ⟨Nat.zero_le _, Nat.zero_le _⟩ hP (hD.fst rfl) hS hA [0, 1, 2, 3] [] [0, 1, 2, 3] rfl rfl (by decide) (by decide) rfl (by decide) (W1 := [(a_o, .inr (5, [.ref a_o_triangle, .ref a_o_now, .ref a_o_kept, .ref a_o_trial, .ref a_o_reader, .ref a_o_tapes, .int o_hasImage])), (a_o_now, .inr (2, [.ref a_o_triangle, .ref a_o_now_marks, .ref a_o_now_seen, .ref a_o_now_events, .ref a_o_now_book, .int o_now_p, .int o_now_e, .int o_now_modulus, .int o_now_windowRow, .int o_now_windowPlace])), (a_o_now_marks, .inr (0, [.ref a_o_now_marks_numbers, .int u_4.2.2])), (a_o_now_marks_numbers, .inl (cI, 18, .inl u_4.2.1))]) rfl (fun H locs hP hS => W.eq (g2 := F0 m 62 ls [.int u_4.1]) rfl ?_)
    obtain rfl := Option.some.inj hr
    exact hret H locs _ hP hS (fun Qc free hq hf => W.iret hx hb hrt hq hf dX6_doClause_62 hlocks)
  have hr := ite_n hr c_3
  by_cases c_5 : p0 = (112 : Int32)
  · have hr := ite_p hr c_5
    refine W.eq (g2 := F0 m 1 ls (.int (112 : Int32) :: [])) (congrArg (fun z => F0 m 1 ls (.int z :: [])) c_5) ?_
    refine lv_lookup (tgt := 44) hx hb dX6_doClause_1 (by decide) (by first | rfl | decide) (by decide) ?_
    refine lv_aload_n hx hb dX6_doClause_44 rfl (lv_at hl 0 rfl) ?_
    refine lv_iload_n hx hb dX6_doClause_45 rfl (lv_at hl 2 rfl) ?_
    obtain ⟨u_6, hu_6, hr⟩ := bd_e hr
    refine mu_V ⟨hx, hb, hml, hown, hts⟩ (k_X6_prime l dC dI cI cJ a_o a_o_triangle a_o_now a_o_kept a_o_trial a_o_reader a_o_tapes a_o_now_marks a_o_now_seen a_o_now_events a_o_now_book p1 o_hasImage o_now_p o_now_e o_now_modulus o_now_windowRow o_now_windowPlace H.size u_6 hu_6) (cwV 1 hts gX6_doClause_X6_prime rfl rfl rfl (by decide +kernel) ⟨Nat.le_of_ble_eq_true rfl, Nat.le_of_ble_eq_true rfl⟩) hE 0 rfl rfl rfl rfl hl.1 rfl (Nat.le_of_ble_eq_true rfl) dX6_doClause_46 ⟨Nat.zero_le _, Nat.zero_le _⟩ hP (hD.fst rfl) hS hA [0, 1] [2, 3] [2, 3, 0, 1] rfl rfl (by decide) (by decide) rfl (by decide) (W1 := [(a_o, .inr (5, [.ref a_o_triangle, .ref a_o_now, .ref a_o_kept, .ref a_o_trial, .ref a_o_reader, .ref a_o_tapes, .int o_hasImage])), (a_o_now, .inr (2, [.ref a_o_triangle, .ref a_o_now_marks, .ref a_o_now_seen, .ref a_o_now_events, .ref a_o_now_book, .int u_6.2.1, .int u_6.2.2.1, .int u_6.2.2.2, .int o_now_windowRow, .int o_now_windowPlace])), (a_o_now_marks, .inr (0, [.ref a_o_now_marks_numbers, .int o_now_marks_size])), (a_o_now_marks_numbers, .inl (cI, 18, .inl o_now_marks_numbers))]) rfl (fun H locs hP hS => W.eq (g2 := F0 m 49 ls [.int u_6.1]) rfl ?_)
    obtain rfl := Option.some.inj hr
    exact hret H locs _ hP hS (fun Qc free hq hf => W.iret hx hb hrt hq hf dX6_doClause_49 hlocks)
  have hr := ite_n hr c_5
  by_cases c_7 : p0 = (119 : Int32)
  · have hr := ite_p hr c_7
    refine W.eq (g2 := F0 m 1 ls (.int (119 : Int32) :: [])) (congrArg (fun z => F0 m 1 ls (.int z :: [])) c_7) ?_
    refine lv_lookup (tgt := 63) hx hb dX6_doClause_1 (by decide) (by first | rfl | decide) (by decide) ?_
    refine lv_aload_n hx hb dX6_doClause_63 rfl (lv_at hl 0 rfl) ?_
    refine lv_iload_n hx hb dX6_doClause_64 rfl (lv_at hl 2 rfl) ?_
    refine lv_iload_n hx hb dX6_doClause_65 rfl (lv_at hl 3 rfl) ?_
    obtain ⟨u_8, hu_8, hr⟩ := bd_e hr
    refine mu_V ⟨hx, hb, hml, hown, hts⟩ (k_X6_window l dC dI cI cJ a_o a_o_triangle a_o_now a_o_kept a_o_trial a_o_reader a_o_tapes a_o_now_marks a_o_now_seen a_o_now_events a_o_now_book p1 p2 o_hasImage o_now_p o_now_e o_now_modulus o_now_windowRow o_now_windowPlace H.size u_8 hu_8) (cwV 2 hts gX6_doClause_X6_window rfl rfl rfl (by decide +kernel) ⟨Nat.le_of_ble_eq_true rfl, Nat.le_of_ble_eq_true rfl⟩) hE 0 rfl rfl rfl rfl hl.1 rfl (Nat.le_of_ble_eq_true rfl) dX6_doClause_66 ⟨Nat.zero_le _, Nat.zero_le _⟩ hP (hD.fst rfl) hS hA [0, 1] [2, 3] [2, 3, 0, 1] rfl rfl (by decide) (by decide) rfl (by decide) (W1 := [(a_o, .inr (5, [.ref a_o_triangle, .ref a_o_now, .ref a_o_kept, .ref a_o_trial, .ref a_o_reader, .ref a_o_tapes, .int o_hasImage])), (a_o_now, .inr (2, [.ref a_o_triangle, .ref a_o_now_marks, .ref a_o_now_seen, .ref a_o_now_events, .ref a_o_now_book, .int o_now_p, .int o_now_e, .int o_now_modulus, .int u_8.2.1, .int u_8.2.2])), (a_o_now_marks, .inr (0, [.ref a_o_now_marks_numbers, .int o_now_marks_size])), (a_o_now_marks_numbers, .inl (cI, 18, .inl o_now_marks_numbers))]) rfl (fun H locs hP hS => W.eq (g2 := F0 m 69 ls [.int u_8.1]) rfl ?_)
    obtain rfl := Option.some.inj hr
    exact hret H locs _ hP hS (fun Qc free hq hf => W.iret hx hb hrt hq hf dX6_doClause_69 hlocks)
  have hr := ite_n hr c_7
  refine lv_lookup (tgt := 70) hx hb dX6_doClause_1 (by decide) (lks_out (fun k h => ?_)) (by decide) ?_
  · simp only [List.map, List.mem_cons, List.not_mem_nil, or_false] at h
    rcases h with rfl | rfl | rfl | rfl
    · exact i32_ne c_1 rfl
    · exact i32_ne c_3 rfl
    · exact i32_ne c_5 rfl
    · exact i32_ne c_7 rfl
  refine lv_aload_n hx hb dX6_doClause_70 rfl (lv_at hl 0 rfl) ?_
  obtain ⟨u_9, hu_9, hr⟩ := bd_e hr
  refine mu_V ⟨hx, hb, hml, hown, hts⟩ (k_X6_clear l dC dI cI cJ a_o a_o_triangle a_o_now a_o_kept a_o_trial a_o_reader a_o_tapes a_o_now_marks a_o_now_seen a_o_now_events a_o_now_book a_o_now_marks_numbers o_hasImage o_now_p o_now_e o_now_modulus o_now_windowRow o_now_windowPlace o_now_marks_size H.size u_9 hu_9) (cwV 0 hts gX6_doClause_X6_clear rfl rfl rfl (by decide +kernel) ⟨Nat.le_of_ble_eq_true rfl, Nat.le_of_ble_eq_true rfl⟩) hE 0 rfl rfl rfl rfl hl.1 rfl (Nat.le_of_ble_eq_true rfl) dX6_doClause_71 ⟨Nat.zero_le _, Nat.zero_le _⟩ hP (hD.fst rfl) hS hA [0, 1, 2] [3] [1, 2, 3, 0] rfl rfl (by decide) (by decide) rfl (by decide) (W1 := [(a_o, .inr (5, [.ref a_o_triangle, .ref a_o_now, .ref a_o_kept, .ref a_o_trial, .ref a_o_reader, .ref a_o_tapes, .int o_hasImage])), (a_o_now, .inr (2, [.ref a_o_triangle, .ref a_o_now_marks, .ref a_o_now_seen, .ref a_o_now_events, .ref a_o_now_book, .int o_now_p, .int o_now_e, .int o_now_modulus, .int o_now_windowRow, .int o_now_windowPlace])), (a_o_now_marks, .inr (0, [.ref a_o_now_marks_numbers, .int u_9.2])), (a_o_now_marks_numbers, .inl (cI, 18, .inl o_now_marks_numbers))]) rfl (fun H locs hP hS => W.eq (g2 := F0 m 74 ls [.int u_9.1]) rfl ?_)
  obtain rfl := Option.some.inj hr
  exact hret H locs _ hP hS (fun Qc free hq hf => W.iret hx hb hrt hq hf dX6_doClause_74 hlocks)
/-! X6_read -/
def rmX6_read : Room := { frames := 4, cells := 0, slots := 0, locals := 90 }
set_option maxHeartbeats 4000000 in
set_option maxRecDepth 100000 in
theorem k_X6_read (l : Launch) (dC : Nat → ClassId) (dI : Nat → Nat → Nat) (cI cJ : ClassId) (a_o : Nat) (a_o_triangle : Nat) (a_o_now : Nat) (a_o_kept : Nat) (a_o_trial : Nat) (a_o_reader : Nat) (a_o_tapes : Nat) (a_o_now_marks : Nat) (a_o_now_seen : Nat) (a_o_now_events : Nat) (a_o_now_book : Nat) (a_o_now_marks_numbers : Nat) (a_o_reader_text : Nat) (a_o_reader_clauses : Nat) (a_o_reader_clauses_numbers : Nat) (o_hasImage : Int32) (o_now_p : Int32) (o_now_e : Int32) (o_now_modulus : Int32) (o_now_windowRow : Int32) (o_now_windowPlace : Int32) (o_now_marks_size : Int32) (o_now_marks_numbers : Nat → Int32) (o_reader_length : Int32) (o_reader_next : Int32) (o_reader_text : Nat → Int32) (o_reader_clauses_size : Int32) (o_reader_clauses_numbers : Nat → Int32) (sz : Nat) (r : Int32 × (Nat → Int32) × Int32 × Int32 × Int32 × Int32 × Int32 × Int32 × (Nat → Int32) × Int32 × Int32 × Int32) (hr : f_X6_read o_now_marks_numbers o_now_marks_size o_now_p o_now_e o_now_modulus o_now_windowRow o_now_windowPlace o_reader_text o_reader_clauses_numbers o_reader_clauses_size o_reader_length o_reader_next = some r) : Met l yX6_read wsX6_read rmX6_read (va_Pc [.ref a_o] (pM (dC, dI) cI cJ [(a_o, .inr (5, [.ref a_o_triangle, .ref a_o_now, .ref a_o_kept, .ref a_o_trial, .ref a_o_reader, .ref a_o_tapes, .int o_hasImage])), (a_o_now, .inr (2, [.ref a_o_triangle, .ref a_o_now_marks, .ref a_o_now_seen, .ref a_o_now_events, .ref a_o_now_book, .int o_now_p, .int o_now_e, .int o_now_modulus, .int o_now_windowRow, .int o_now_windowPlace])), (a_o_now_marks, .inr (0, [.ref a_o_now_marks_numbers, .int o_now_marks_size])), (a_o_now_marks_numbers, .inl (cI, 18, .inl o_now_marks_numbers)), (a_o_reader, .inr (1, [.ref a_o_reader_text, .ref a_o_reader_clauses, .int o_reader_length, .int o_reader_next])), (a_o_reader_text, .inl (cI, 100, .inl o_reader_text)), (a_o_reader_clauses, .inr (0, [.ref a_o_reader_clauses_numbers, .int o_reader_clauses_size])), (a_o_reader_clauses_numbers, .inl (cI, 36, .inl o_reader_clauses_numbers))] sz)) (qM (some (.int r.1)) (dC, dI) [(a_o, .inr (5, [.ref a_o_triangle, .ref a_o_now, .ref a_o_kept, .ref a_o_trial, .ref a_o_reader, .ref a_o_tapes, .int o_hasImage])), (a_o_now, .inr (2, [.ref a_o_triangle, .ref a_o_now_marks, .ref a_o_now_seen, .ref a_o_now_events, .ref a_o_now_book, .int r.2.2.2.1, .int r.2.2.2.2.1, .int r.2.2.2.2.2.1, .int r.2.2.2.2.2.2.1, .int r.2.2.2.2.2.2.2.1])), (a_o_now_marks, .inr (0, [.ref a_o_now_marks_numbers, .int r.2.2.1])), (a_o_now_marks_numbers, .inl (cI, 18, .inl r.2.1)), (a_o_reader, .inr (1, [.ref a_o_reader_text, .ref a_o_reader_clauses, .int r.2.2.2.2.2.2.2.2.2.2.1, .int r.2.2.2.2.2.2.2.2.2.2.2])), (a_o_reader_text, .inl (cI, 100, .inl o_reader_text)), (a_o_reader_clauses, .inr (0, [.ref a_o_reader_clauses_numbers, .int r.2.2.2.2.2.2.2.2.2.1])), (a_o_reader_clauses_numbers, .inl (cI, 36, .inl r.2.2.2.2.2.2.2.2.1))] (va_A [(a_o, .inr (5, [.ref a_o_triangle, .ref a_o_now, .ref a_o_kept, .ref a_o_trial, .ref a_o_reader, .ref a_o_tapes, .int o_hasImage])), (a_o_now, .inr (2, [.ref a_o_triangle, .ref a_o_now_marks, .ref a_o_now_seen, .ref a_o_now_events, .ref a_o_now_book, .int o_now_p, .int o_now_e, .int o_now_modulus, .int o_now_windowRow, .int o_now_windowPlace])), (a_o_now_marks, .inr (0, [.ref a_o_now_marks_numbers, .int o_now_marks_size])), (a_o_now_marks_numbers, .inl (cI, 18, .inl o_now_marks_numbers)), (a_o_reader, .inr (1, [.ref a_o_reader_text, .ref a_o_reader_clauses, .int o_reader_length, .int o_reader_next])), (a_o_reader_text, .inl (cI, 100, .inl o_reader_text)), (a_o_reader_clauses, .inr (0, [.ref a_o_reader_clauses_numbers, .int o_reader_clauses_size])), (a_o_reader_clauses_numbers, .inl (cI, 36, .inl o_reader_clauses_numbers))] sz)) 0 0 (va_A [(a_o, .inr (5, [.ref a_o_triangle, .ref a_o_now, .ref a_o_kept, .ref a_o_trial, .ref a_o_reader, .ref a_o_tapes, .int o_hasImage])), (a_o_now, .inr (2, [.ref a_o_triangle, .ref a_o_now_marks, .ref a_o_now_seen, .ref a_o_now_events, .ref a_o_now_book, .int o_now_p, .int o_now_e, .int o_now_modulus, .int o_now_windowRow, .int o_now_windowPlace])), (a_o_now_marks, .inr (0, [.ref a_o_now_marks_numbers, .int o_now_marks_size])), (a_o_now_marks_numbers, .inl (cI, 18, .inl o_now_marks_numbers)), (a_o_reader, .inr (1, [.ref a_o_reader_text, .ref a_o_reader_clauses, .int o_reader_length, .int o_reader_next])), (a_o_reader_text, .inl (cI, 100, .inl o_reader_text)), (a_o_reader_clauses, .inr (0, [.ref a_o_reader_clauses_numbers, .int o_reader_clauses_size])), (a_o_reader_clauses_numbers, .inl (cI, 36, .inl o_reader_clauses_numbers))] sz) := by
  refine mu_of (cc := cX6_read) (maxL := 4) (by decide) rfl (Nat.le_of_ble_eq_true rfl) ?_
  intro p e s m args below meth c Q ls A hx hb hml hown hts hE hP hD hA hrt hlocks hret hl
  have hK := hE.1
  have hS : va_S A s.heap s.heap [] := va_S.rf
  have hl : lv_has ls 4 [(0, .ref a_o)] := hl
  unfold f_X6_read at hr
  obtain ⟨H, hHe⟩ : ∃ H, H = s.heap := ⟨_, rfl⟩
  obtain ⟨locs, hLe⟩ : ∃ locs : List Loc, locs = [] := ⟨_, rfl⟩
  suffices hgo : va_P (dC, dI) vwCl [(a_o, .inr (5, [.ref a_o_triangle, .ref a_o_now, .ref a_o_kept, .ref a_o_trial, .ref a_o_reader, .ref a_o_tapes, .int o_hasImage])), (a_o_now, .inr (2, [.ref a_o_triangle, .ref a_o_now_marks, .ref a_o_now_seen, .ref a_o_now_events, .ref a_o_now_book, .int o_now_p, .int o_now_e, .int o_now_modulus, .int o_now_windowRow, .int o_now_windowPlace])), (a_o_now_marks, .inr (0, [.ref a_o_now_marks_numbers, .int o_now_marks_size])), (a_o_now_marks_numbers, .inl (cI, 18, .inl o_now_marks_numbers)), (a_o_reader, .inr (1, [.ref a_o_reader_text, .ref a_o_reader_clauses, .int o_reader_length, .int o_reader_next])), (a_o_reader_text, .inl (cI, 100, .inl o_reader_text)), (a_o_reader_clauses, .inr (0, [.ref a_o_reader_clauses_numbers, .int o_reader_clauses_size])), (a_o_reader_clauses_numbers, .inl (cI, 36, .inl o_reader_clauses_numbers))] H → va_S A s.heap H locs → W p l e rmX6_read s m args below meth c H locs 0 0 Q (F0 m 0 ls []) by
    subst hHe; subst hLe; exact hgo hP hS
  clear hP hS hHe hLe
  intro hP hS
  have iX1 : ∀ w ∈ wsX10, w ∈ wsX6_read := memr_ (big := wsX6_read) wsX10 [104, 105] (by decide +kernel)
  have iX2 : ∀ w ∈ wsX20, w ∈ wsX6_read := memr_ (big := wsX6_read) wsX20 [100, 101, 102, 103] (by decide +kernel)
  have iX3 : ∀ w ∈ wsX30, w ∈ wsX6_read := memr_ (big := wsX6_read) wsX30 [106, 107, 108, 109, 110, 111, 112, 113, 114, 115] (by decide +kernel)
  have iX6 : ∀ w ∈ wsX60, w ∈ wsX6_read := memr_ (big := wsX6_read) wsX60 [93, 94, 95, 96, 97, 98, 99] (by decide +kernel)
  refine lv_aload_n hx hb dX6_read_0 rfl (lv_at hl 0 rfl) ?_
  refine va_get (D := (dC, dI)) (ci := 5) (v := .ref a_o_reader) (C := RX6) (T := TX6) (N := 7) hx hb hts iX6 hown hK hP 0 rfl rfl 4 (by decide) (hts (.fieldLink RX6 36 "PascalRows" "reader" "LPascalRows$Reader;") (List.mem_of_getElem? (i := 1) rfl)) (fun _ h9 => h9) rfl dX6_read_1 ?_
  obtain ⟨u_1, hu_1, hr⟩ := bd_e hr
  refine mu_V ⟨hx, hb, hml, hown, hts⟩ (k_X2_faultOfText l dC dI cI cJ a_o_reader a_o_reader_text a_o_reader_clauses a_o_reader_clauses_numbers o_reader_length o_reader_next o_reader_text o_reader_clauses_size o_reader_clauses_numbers H.size u_1 hu_1) (cwV 0 hts gX6_read_X2_faultOfText rfl rfl rfl (by decide +kernel) ⟨Nat.le_of_ble_eq_true rfl, Nat.le_of_ble_eq_true rfl⟩) hE 4 rfl rfl rfl rfl hl.1 rfl (Nat.le_of_ble_eq_true rfl) dX6_read_4 ⟨Nat.zero_le _, Nat.zero_le _⟩ hP (hD.fst rfl) hS hA [4, 5, 6, 7] [0, 1, 2, 3] [0, 1, 2, 3, 4, 5, 6, 7] rfl rfl (by decide) (by decide) rfl (by decide) (W1 := [(a_o, .inr (5, [.ref a_o_triangle, .ref a_o_now, .ref a_o_kept, .ref a_o_trial, .ref a_o_reader, .ref a_o_tapes, .int o_hasImage])), (a_o_now, .inr (2, [.ref a_o_triangle, .ref a_o_now_marks, .ref a_o_now_seen, .ref a_o_now_events, .ref a_o_now_book, .int o_now_p, .int o_now_e, .int o_now_modulus, .int o_now_windowRow, .int o_now_windowPlace])), (a_o_now_marks, .inr (0, [.ref a_o_now_marks_numbers, .int o_now_marks_size])), (a_o_now_marks_numbers, .inl (cI, 18, .inl o_now_marks_numbers)), (a_o_reader, .inr (1, [.ref a_o_reader_text, .ref a_o_reader_clauses, .int o_reader_length, .int u_1.2.2.2])), (a_o_reader_text, .inl (cI, 100, .inl o_reader_text)), (a_o_reader_clauses, .inr (0, [.ref a_o_reader_clauses_numbers, .int u_1.2.2.1])), (a_o_reader_clauses_numbers, .inl (cI, 36, .inl u_1.2.1))]) rfl (fun H locs hP hS => W.eq (g2 := F0 m 7 ls [.int u_1.1]) rfl ?_)
  refine lv_istore_n (lv' := [(1, .int u_1.1), (0, .ref a_o)]) hx hb dX6_read_7 rfl hl (by decide) rfl (fun ls hl => ?_)
  refine lv_aload_n hx hb dX6_read_8 rfl (lv_at hl 1 rfl) ?_
  refine va_get (D := (dC, dI)) (ci := 5) (v := .ref a_o_reader) (C := RX6) (T := TX6) (N := 7) hx hb hts iX6 hown hK hP 0 rfl rfl 4 (by decide) (hts (.fieldLink RX6 36 "PascalRows" "reader" "LPascalRows$Reader;") (List.mem_of_getElem? (i := 1) rfl)) (fun _ h9 => h9) rfl dX6_read_9 ?_
  obtain ⟨u_2, hu_2, hr⟩ := bd_e hr
  refine mu_V ⟨hx, hb, hml, hown, hts⟩ (k_X2_emptyText l dC dI cI cJ a_o_reader a_o_reader_text a_o_reader_clauses o_reader_length u_1.2.2.2 H.size u_2 hu_2) (cwV 0 hts gX6_read_X2_emptyText rfl rfl rfl (by decide +kernel) ⟨Nat.le_of_ble_eq_true rfl, Nat.le_of_ble_eq_true rfl⟩) hE 4 rfl rfl rfl rfl hl.1 rfl (Nat.le_of_ble_eq_true rfl) dX6_read_12 ⟨Nat.zero_le _, Nat.zero_le _⟩ hP (hD.fst rfl) hS hA [4] [0, 1, 2, 3, 5, 6, 7] [0, 1, 2, 3, 7, 4, 5, 6] rfl rfl (by decide) (by decide) rfl (by decide) (W1 := [(a_o, .inr (5, [.ref a_o_triangle, .ref a_o_now, .ref a_o_kept, .ref a_o_trial, .ref a_o_reader, .ref a_o_tapes, .int o_hasImage])), (a_o_now, .inr (2, [.ref a_o_triangle, .ref a_o_now_marks, .ref a_o_now_seen, .ref a_o_now_events, .ref a_o_now_book, .int o_now_p, .int o_now_e, .int o_now_modulus, .int o_now_windowRow, .int o_now_windowPlace])), (a_o_now_marks, .inr (0, [.ref a_o_now_marks_numbers, .int o_now_marks_size])), (a_o_now_marks_numbers, .inl (cI, 18, .inl o_now_marks_numbers)), (a_o_reader, .inr (1, [.ref a_o_reader_text, .ref a_o_reader_clauses, .int u_2, .int u_1.2.2.2])), (a_o_reader_text, .inl (cI, 100, .inl o_reader_text)), (a_o_reader_clauses, .inr (0, [.ref a_o_reader_clauses_numbers, .int u_1.2.2.1])), (a_o_reader_clauses_numbers, .inl (cI, 36, .inl u_1.2.1))]) rfl (fun H locs hP hS => W.eq (g2 := F0 m 15 ls []) rfl ?_)
  refine lv_iload_n hx hb dX6_read_15 rfl (lv_at hl 0 rfl) ?_
  refine lv_iconst (v := (-1 : Int32)) hx hb dX6_read_16 (by decide) ?_
  refine lv_icmp_eq (tgt := 25) hx hb dX6_read_17 (by decide) (fun c_3 => ?_) (fun c_3 => ?_)
  · have hr := ite_p hr c_3
    refine lv_iconst (v := (0 : Int32)) hx hb dX6_read_25 (by decide) ?_
    refine lv_istore_n (lv' := [(2, .int (0 : Int32)), (1, .int u_1.1), (0, .ref a_o)]) hx hb dX6_read_26 rfl hl (by decide) rfl (fun ls hl => ?_)
    refine lv_iconst (v := (0 : Int32)) hx hb dX6_read_27 (by decide) ?_
    refine lv_istore_n (lv' := [(3, .int (0 : Int32)), (2, .int (0 : Int32)), (1, .int u_1.1), (0, .ref a_o)]) hx hb dX6_read_28 rfl hl (by decide) rfl (fun ls hl => ?_)
    have hL29 : ∀ (o_reader_clauses_numbers_29 : Nat → Int32) (o_reader_clauses_size_29 : Int32) (o_reader_length_29 : Int32) (o_reader_next_29 : Int32) (k_29 : Int32 → (Nat → Int32) → (Int32) → (Int32) → (Int32) → (Int32) → (Int32) → (Int32) → Option (Int32 × (Nat → Int32) × Int32 × Int32 × Int32 × Int32 × Int32 × Int32 × (Nat → Int32) × Int32 × Int32 × Int32)) (hk : ∀ (x2_29 : Int32) (xc_o_now_marks_numbers_29 : Nat → Int32) (xc_o_now_marks_size_29 : Int32) (xc_o_now_p_29 : Int32) (xc_o_now_e_29 : Int32) (xc_o_now_modulus_29 : Int32) (xc_o_now_windowRow_29 : Int32) (xc_o_now_windowPlace_29 : Int32) (ls : Array Slot), lv_has ls 4 [(2, .int x2_29)] → ∀ (H : Heap) (locs : List Loc), va_P (dC, dI) vwCl [(a_o, .inr (5, [.ref a_o_triangle, .ref a_o_now, .ref a_o_kept, .ref a_o_trial, .ref a_o_reader, .ref a_o_tapes, .int o_hasImage])), (a_o_now, .inr (2, [.ref a_o_triangle, .ref a_o_now_marks, .ref a_o_now_seen, .ref a_o_now_events, .ref a_o_now_book, .int xc_o_now_p_29, .int xc_o_now_e_29, .int xc_o_now_modulus_29, .int xc_o_now_windowRow_29, .int xc_o_now_windowPlace_29])), (a_o_now_marks, .inr (0, [.ref a_o_now_marks_numbers, .int xc_o_now_marks_size_29])), (a_o_now_marks_numbers, .inl (cI, 18, .inl xc_o_now_marks_numbers_29)), (a_o_reader, .inr (1, [.ref a_o_reader_text, .ref a_o_reader_clauses, .int o_reader_length_29, .int o_reader_next_29])), (a_o_reader_text, .inl (cI, 100, .inl o_reader_text)), (a_o_reader_clauses, .inr (0, [.ref a_o_reader_clauses_numbers, .int o_reader_clauses_size_29])), (a_o_reader_clauses_numbers, .inl (cI, 36, .inl o_reader_clauses_numbers_29))] H → va_S A s.heap H locs →  k_29 x2_29 xc_o_now_marks_numbers_29 xc_o_now_marks_size_29 xc_o_now_p_29 xc_o_now_e_29 xc_o_now_modulus_29 xc_o_now_windowRow_29 xc_o_now_windowPlace_29 = some r → W p l e rmX6_read s m args below meth c H locs 0 0 Q (F0 m 95 ls [])) (fuel : Nat) (v2_29 : Int32) (v3_29 : Int32) (o_now_marks_numbers_29 : Nat → Int32) (o_now_marks_size_29 : Int32) (o_now_p_29 : Int32) (o_now_e_29 : Int32) (o_now_modulus_29 : Int32) (o_now_windowRow_29 : Int32) (o_now_windowPlace_29 : Int32) (ls : Array Slot), lv_has ls 4 [(0, .ref a_o), (2, .int v2_29), (3, .int v3_29)] → ∀ (H : Heap) (locs : List Loc), va_P (dC, dI) vwCl [(a_o, .inr (5, [.ref a_o_triangle, .ref a_o_now, .ref a_o_kept, .ref a_o_trial, .ref a_o_reader, .ref a_o_tapes, .int o_hasImage])), (a_o_now, .inr (2, [.ref a_o_triangle, .ref a_o_now_marks, .ref a_o_now_seen, .ref a_o_now_events, .ref a_o_now_book, .int o_now_p_29, .int o_now_e_29, .int o_now_modulus_29, .int o_now_windowRow_29, .int o_now_windowPlace_29])), (a_o_now_marks, .inr (0, [.ref a_o_now_marks_numbers, .int o_now_marks_size_29])), (a_o_now_marks_numbers, .inl (cI, 18, .inl o_now_marks_numbers_29)), (a_o_reader, .inr (1, [.ref a_o_reader_text, .ref a_o_reader_clauses, .int o_reader_length_29, .int o_reader_next_29])), (a_o_reader_text, .inl (cI, 100, .inl o_reader_text)), (a_o_reader_clauses, .inr (0, [.ref a_o_reader_clauses_numbers, .int o_reader_clauses_size_29])), (a_o_reader_clauses_numbers, .inl (cI, 36, .inl o_reader_clauses_numbers_29))] H → va_S A s.heap H locs → f_X6_read_L29 k_29 o_reader_clauses_numbers_29 o_reader_clauses_size_29 fuel v2_29 v3_29 o_now_marks_numbers_29 o_now_marks_size_29 o_now_p_29 o_now_e_29 o_now_modulus_29 o_now_windowRow_29 o_now_windowPlace_29 = some r → W p l e rmX6_read s m args below meth c H locs 0 0 Q (F0 m 29 ls []) := by
      intro o_reader_clauses_numbers_29 o_reader_clauses_size_29 o_reader_length_29 o_reader_next_29 k_29 hk fuel
      induction fuel with
      | zero =>
        intro v2_29 v3_29 o_now_marks_numbers_29 o_now_marks_size_29 o_now_p_29 o_now_e_29 o_now_modulus_29 o_now_windowRow_29 o_now_windowPlace_29 ls hl H locs hP hS hr
        rw [f_X6_read_L29_z] at hr
        cases hr
      | succ fuel ih =>
        intro v2_29 v3_29 o_now_marks_numbers_29 o_now_marks_size_29 o_now_p_29 o_now_e_29 o_now_modulus_29 o_now_windowRow_29 o_now_windowPlace_29 ls hl H locs hP hS hr
        rw [f_X6_read_L29_s] at hr
        refine lv_iload_n hx hb dX6_read_29 rfl (lv_at hl 2 rfl) ?_
        refine lv_aload_n hx hb dX6_read_30 rfl (lv_at hl 0 rfl) ?_
        refine va_get (D := (dC, dI)) (ci := 5) (v := .ref a_o_reader) (C := RX6) (T := TX6) (N := 7) hx hb hts iX6 hown hK hP 0 rfl rfl 4 (by decide) (hts (.fieldLink RX6 36 "PascalRows" "reader" "LPascalRows$Reader;") (List.mem_of_getElem? (i := 1) rfl)) (fun _ h9 => h9) rfl dX6_read_31 ?_
        refine va_getN (host := "PascalRows") (D := (dC, dI)) (ci := 1) (v := .ref a_o_reader_clauses) (C := RX2) (T := TX2) (N := 4) hx hb hts iX2 hown hK hP 4 rfl rfl 1 (by decide) (hE.nest 12 rfl rfl) (fun _ h9 => h9) rfl dX6_read_34 ?_
        refine va_getN (host := "PascalRows") (D := (dC, dI)) (ci := 0) (v := .int o_reader_clauses_size_29) (C := RX1) (T := TX1) (N := 2) hx hb hts iX1 hown hK hP 6 rfl rfl 1 (by decide) (hE.nest 8 rfl rfl) (fun _ h9 => h9) rfl dX6_read_37 ?_
        refine lv_icmp_ge (tgt := 95) hx hb dX6_read_40 (by decide) (fun c_4 => ?_) (fun c_4 => ?_)
        · have hr := ite_p hr c_4
          exact hk v2_29 o_now_marks_numbers_29 o_now_marks_size_29 o_now_p_29 o_now_e_29 o_now_modulus_29 o_now_windowRow_29 o_now_windowPlace_29 ls (lv_sub hl [1] rfl) H locs hP hS hr
        · have hr := ite_n hr c_4
          refine lv_aload_n hx hb dX6_read_43 rfl (lv_at hl 0 rfl) ?_
          refine lv_aload_n hx hb dX6_read_44 rfl (lv_at hl 0 rfl) ?_
          refine va_get (D := (dC, dI)) (ci := 5) (v := .ref a_o_reader) (C := RX6) (T := TX6) (N := 7) hx hb hts iX6 hown hK hP 0 rfl rfl 4 (by decide) (hts (.fieldLink RX6 36 "PascalRows" "reader" "LPascalRows$Reader;") (List.mem_of_getElem? (i := 1) rfl)) (fun _ h9 => h9) rfl dX6_read_45 ?_
          refine va_getN (host := "PascalRows") (D := (dC, dI)) (ci := 1) (v := .ref a_o_reader_clauses) (C := RX2) (T := TX2) (N := 4) hx hb hts iX2 hown hK hP 4 rfl rfl 1 (by decide) (hE.nest 12 rfl rfl) (fun _ h9 => h9) rfl dX6_read_48 ?_
          refine lv_iload_n hx hb dX6_read_51 rfl (lv_at hl 2 rfl) ?_
          refine lv_iconst (v := (0 : Int32)) hx hb dX6_read_52 (by decide) ?_
          obtain ⟨u_5, hu_5, hr⟩ := bd_e hr
          refine ro_V ⟨hx, hb, hml, hown, hts⟩ (k_X1_number l dC dI cI cJ a_o_reader_clauses a_o_reader_clauses_numbers v3_29 (0 : Int32) 36 o_reader_clauses_size_29 o_reader_clauses_numbers_29 u_5 hu_5) (cwV 2 hts gX6_read_X1_number rfl rfl rfl (by decide +kernel) ⟨Nat.le_of_ble_eq_true rfl, Nat.le_of_ble_eq_true rfl⟩) hE hP 6 rfl rfl rfl (hP.sub [6, 7] rfl) rfl hl.1 rfl (Nat.le_of_ble_eq_true rfl) dX6_read_53 ⟨Nat.zero_le _, Nat.zero_le _⟩ ?_
          refine lv_aload_n hx hb dX6_read_56 rfl (lv_at hl 0 rfl) ?_
          refine va_get (D := (dC, dI)) (ci := 5) (v := .ref a_o_reader) (C := RX6) (T := TX6) (N := 7) hx hb hts iX6 hown hK hP 0 rfl rfl 4 (by decide) (hts (.fieldLink RX6 36 "PascalRows" "reader" "LPascalRows$Reader;") (List.mem_of_getElem? (i := 1) rfl)) (fun _ h9 => h9) rfl dX6_read_57 ?_
          refine va_getN (host := "PascalRows") (D := (dC, dI)) (ci := 1) (v := .ref a_o_reader_clauses) (C := RX2) (T := TX2) (N := 4) hx hb hts iX2 hown hK hP 4 rfl rfl 1 (by decide) (hE.nest 12 rfl rfl) (fun _ h9 => h9) rfl dX6_read_60 ?_
          refine lv_iload_n hx hb dX6_read_63 rfl (lv_at hl 2 rfl) ?_
          refine lv_iconst (v := (1 : Int32)) hx hb dX6_read_64 (by decide) ?_
          obtain ⟨u_6, hu_6, hr⟩ := bd_e hr
          refine ro_V ⟨hx, hb, hml, hown, hts⟩ (k_X1_number l dC dI cI cJ a_o_reader_clauses a_o_reader_clauses_numbers v3_29 (1 : Int32) 36 o_reader_clauses_size_29 o_reader_clauses_numbers_29 u_6 hu_6) (cwV 2 hts gX6_read_X1_number rfl rfl rfl (by decide +kernel) ⟨Nat.le_of_ble_eq_true rfl, Nat.le_of_ble_eq_true rfl⟩) hE hP 6 rfl rfl rfl (hP.sub [6, 7] rfl) rfl hl.1 rfl (Nat.le_of_ble_eq_true rfl) dX6_read_65 ⟨Nat.zero_le _, Nat.zero_le _⟩ ?_
          refine lv_aload_n hx hb dX6_read_68 rfl (lv_at hl 0 rfl) ?_
          refine va_get (D := (dC, dI)) (ci := 5) (v := .ref a_o_reader) (C := RX6) (T := TX6) (N := 7) hx hb hts iX6 hown hK hP 0 rfl rfl 4 (by decide) (hts (.fieldLink RX6 36 "PascalRows" "reader" "LPascalRows$Reader;") (List.mem_of_getElem? (i := 1) rfl)) (fun _ h9 => h9) rfl dX6_read_69 ?_
          refine va_getN (host := "PascalRows") (D := (dC, dI)) (ci := 1) (v := .ref a_o_reader_clauses) (C := RX2) (T := TX2) (N := 4) hx hb hts iX2 hown hK hP 4 rfl rfl 1 (by decide) (hE.nest 12 rfl rfl) (fun _ h9 => h9) rfl dX6_read_72 ?_
          refine lv_iload_n hx hb dX6_read_75 rfl (lv_at hl 2 rfl) ?_
          refine lv_iconst (v := (2 : Int32)) hx hb dX6_read_76 (by decide) ?_
          obtain ⟨u_7, hu_7, hr⟩ := bd_e hr
          refine ro_V ⟨hx, hb, hml, hown, hts⟩ (k_X1_number l dC dI cI cJ a_o_reader_clauses a_o_reader_clauses_numbers v3_29 (2 : Int32) 36 o_reader_clauses_size_29 o_reader_clauses_numbers_29 u_7 hu_7) (cwV 2 hts gX6_read_X1_number rfl rfl rfl (by decide +kernel) ⟨Nat.le_of_ble_eq_true rfl, Nat.le_of_ble_eq_true rfl⟩) hE hP 6 rfl rfl rfl (hP.sub [6, 7] rfl) rfl hl.1 rfl (Nat.le_of_ble_eq_true rfl) dX6_read_77 ⟨Nat.zero_le _, Nat.zero_le _⟩ ?_
          obtain ⟨u_8, hu_8, hr⟩ := bd_e hr
          refine mu_V ⟨hx, hb, hml, hown, hts⟩ (k_X6_doClause l dC dI cI cJ a_o a_o_triangle a_o_now a_o_kept a_o_trial a_o_reader a_o_tapes a_o_now_marks a_o_now_seen a_o_now_events a_o_now_book a_o_now_marks_numbers u_5 u_6 u_7 o_hasImage o_now_p_29 o_now_e_29 o_now_modulus_29 o_now_windowRow_29 o_now_windowPlace_29 o_now_marks_size_29 o_now_marks_numbers_29 H.size u_8 hu_8) (cwV 3 hts gX6_read_X6_doClause rfl rfl rfl (by decide +kernel) ⟨Nat.le_of_ble_eq_true rfl, Nat.le_of_ble_eq_true rfl⟩) hE 0 rfl rfl rfl rfl hl.1 rfl (Nat.le_of_ble_eq_true rfl) dX6_read_80 ⟨Nat.zero_le _, Nat.zero_le _⟩ hP (hD.fst rfl) hS hA [0, 1, 2, 3] [4, 5, 6, 7] [4, 5, 6, 7, 0, 1, 2, 3] rfl rfl (by decide) (by decide) rfl (by decide) (W1 := [(a_o, .inr (5, [.ref a_o_triangle, .ref a_o_now, .ref a_o_kept, .ref a_o_trial, .ref a_o_reader, .ref a_o_tapes, .int o_hasImage])), (a_o_now, .inr (2, [.ref a_o_triangle, .ref a_o_now_marks, .ref a_o_now_seen, .ref a_o_now_events, .ref a_o_now_book, .int u_8.2.2.2.1, .int u_8.2.2.2.2.1, .int u_8.2.2.2.2.2.1, .int u_8.2.2.2.2.2.2.1, .int u_8.2.2.2.2.2.2.2])), (a_o_now_marks, .inr (0, [.ref a_o_now_marks_numbers, .int u_8.2.2.1])), (a_o_now_marks_numbers, .inl (cI, 18, .inl u_8.2.1)), (a_o_reader, .inr (1, [.ref a_o_reader_text, .ref a_o_reader_clauses, .int o_reader_length_29, .int o_reader_next_29])), (a_o_reader_text, .inl (cI, 100, .inl o_reader_text)), (a_o_reader_clauses, .inr (0, [.ref a_o_reader_clauses_numbers, .int o_reader_clauses_size_29])), (a_o_reader_clauses_numbers, .inl (cI, 36, .inl o_reader_clauses_numbers_29))]) rfl (fun H locs hP hS => W.eq (g2 := F0 m 83 ls [.int u_8.1]) rfl ?_)
          have hJ_9 : ∀ (y_10 : Int32) (ey_10 : y_10 = (if (u_8.1 < 0) then v2_29 else (v2_29 + (1 : Int32)))) (ls : Array Slot), lv_has ls 4 [(0, .ref a_o), (2, .int y_10), (3, .int v3_29)] → W p l e rmX6_read s m args below meth c H locs 0 0 Q (F0 m 89 ls []) := by
            intro y_10 ey_10 ls hl
            subst ey_10
            refine lv_iinc (v := (v3_29 + (1 : Int32))) (lv' := [(3, .int (v3_29 + (1 : Int32))), (0, .ref a_o), (2, .int (if (u_8.1 < 0) then v2_29 else (v2_29 + (1 : Int32))))]) hx hb dX6_read_89 hl (k := 2) rfl (congrArg (fun z => v3_29 + z) (by decide)) (by decide) rfl (fun ls hl => ?_)
            refine lv_goto (tgt := 29) hx hb dX6_read_92 (by decide) ?_
            exact ih (if (u_8.1 < 0) then v2_29 else (v2_29 + (1 : Int32))) (v3_29 + (1 : Int32)) u_8.2.1 u_8.2.2.1 u_8.2.2.2.1 u_8.2.2.2.2.1 u_8.2.2.2.2.2.1 u_8.2.2.2.2.2.2.1 u_8.2.2.2.2.2.2.2 ls (lv_sub hl [1, 2, 0] rfl) H locs hP hS hr
          refine lv_if_lt (tgt := 89) hx hb dX6_read_83 (by decide) (fun c_11 => ?_) (fun c_11 => ?_)
          · exact hJ_9 _ (if_pos c_11).symm ls (lv_sub hl [0, 1, 2] rfl)
          · refine lv_iinc (v := (v2_29 + (1 : Int32))) (lv' := [(2, .int (v2_29 + (1 : Int32))), (0, .ref a_o), (3, .int v3_29)]) hx hb dX6_read_86 hl (k := 1) rfl (congrArg (fun z => v2_29 + z) (by decide)) (by decide) rfl (fun ls hl => ?_)
            exact hJ_9 _ (if_neg c_11).symm ls (lv_sub hl [1, 0, 2] rfl)
    refine hL29 u_1.2.1 u_1.2.2.1 u_2 u_1.2.2.2 _ (fun x2_29 xc_o_now_marks_numbers_29 xc_o_now_marks_size_29 xc_o_now_p_29 xc_o_now_e_29 xc_o_now_modulus_29 xc_o_now_windowRow_29 xc_o_now_windowPlace_29 ls hl H locs hP hS hr => ?_) 5000 (0 : Int32) (0 : Int32) o_now_marks_numbers o_now_marks_size o_now_p o_now_e o_now_modulus o_now_windowRow o_now_windowPlace ls (lv_sub hl [3, 1, 0] rfl) H locs hP hS hr
    refine lv_iload_n hx hb dX6_read_95 rfl (lv_at hl 0 rfl) ?_
    obtain rfl := Option.some.inj hr
    exact hret H locs _ hP hS (fun Qc free hq hf => W.iret hx hb hrt hq hf dX6_read_96 hlocks)
  · have hr := ite_n hr c_3
    refine lv_bipush (v := (-10 : Int32)) hx hb dX6_read_20 (by decide) ?_
    refine lv_iload_n hx hb dX6_read_22 rfl (lv_at hl 0 rfl) ?_
    refine lv_isub hx hb dX6_read_23 ?_
    obtain rfl := Option.some.inj hr
    exact hret H locs _ hP hS (fun Qc free hq hf => W.iret hx hb hrt hq hf dX6_read_24 hlocks)
/-! X6_told -/
def rmX6_told : Room := { frames := 6, cells := 0, slots := 0, locals := 142 }
set_option maxHeartbeats 4000000 in
set_option maxRecDepth 100000 in
theorem k_X6_told (l : Launch) (dC : Nat → ClassId) (dI : Nat → Nat → Nat) (cI cJ : ClassId) (a_o : Nat) (a_o_triangle : Nat) (a_o_now : Nat) (a_o_kept : Nat) (a_o_trial : Nat) (a_o_reader : Nat) (a_o_tapes : Nat) (a_o_triangle_halves : Nat) (a_o_now_marks : Nat) (a_o_now_seen : Nat) (a_o_now_events : Nat) (a_o_now_book : Nat) (a_o_now_marks_numbers : Nat) (p0 : Int32) (o_hasImage : Int32) (o_triangle_halves : Nat → Int32) (o_now_p : Int32) (o_now_e : Int32) (o_now_modulus : Int32) (o_now_windowRow : Int32) (o_now_windowPlace : Int32) (o_now_marks_size : Int32) (o_now_marks_numbers : Nat → Int32) (r : Int32) (hr : f_X6_told p0 o_triangle_halves o_now_marks_numbers o_now_marks_size o_now_p o_now_e o_now_modulus o_now_windowRow o_now_windowPlace = some r) : Met l yX6_told wsX6_told rmX6_told (va_Pc [.ref a_o, .int p0] (pE (dC, dI) cI cJ [(a_o, .inr (5, [.ref a_o_triangle, .ref a_o_now, .ref a_o_kept, .ref a_o_trial, .ref a_o_reader, .ref a_o_tapes, .int o_hasImage])), (a_o_triangle, .inr (4, [.ref a_o_triangle_halves])), (a_o_triangle_halves, .inl (cI, 4160, .inl o_triangle_halves)), (a_o_now, .inr (2, [.ref a_o_triangle, .ref a_o_now_marks, .ref a_o_now_seen, .ref a_o_now_events, .ref a_o_now_book, .int o_now_p, .int o_now_e, .int o_now_modulus, .int o_now_windowRow, .int o_now_windowPlace])), (a_o_now_marks, .inr (0, [.ref a_o_now_marks_numbers, .int o_now_marks_size])), (a_o_now_marks_numbers, .inl (cI, 18, .inl o_now_marks_numbers))])) (rq (.int r)) 0 0 nofree := by
  refine ro_of_i (cc := cX6_told) (maxL := 2) (by decide) rfl (Nat.le_of_ble_eq_true rfl) ?_
  intro p e s m args below meth c Q ls hx hb hml hown hts hE hP hret hl
  have hK := hE.1
  have hl : lv_has ls 2 [(0, .ref a_o), (1, .int p0)] := hl
  unfold f_X6_told at hr
  have iX1 : ∀ w ∈ wsX10, w ∈ wsX6_told := memr_ (big := wsX6_told) wsX10 [89, 90] (by decide +kernel)
  have iX3 : ∀ w ∈ wsX30, w ∈ wsX6_told := memr_ (big := wsX6_told) wsX30 [79, 80, 81, 82, 83, 84, 85, 86, 87, 88] (by decide +kernel)
  have iX5 : ∀ w ∈ wsX50, w ∈ wsX6_told := memr_ (big := wsX6_told) wsX50 [91] (by decide +kernel)
  have iX6 : ∀ w ∈ wsX60, w ∈ wsX6_told := memr_ (big := wsX6_told) wsX60 [72, 73, 74, 75, 76, 77, 78] (by decide +kernel)
  refine lv_iload_n hx hb dX6_told_0 rfl (lv_at hl 1 rfl) ?_
  by_cases c_1 : p0 = (0 : Int32)
  · have hr := ite_p hr c_1
    refine W.eq (g2 := F0 m 1 ls (.int (0 : Int32) :: [])) (congrArg (fun z => F0 m 1 ls (.int z :: [])) c_1) ?_
    refine lv_tableIn (tgt := 44) hx hb dX6_told_1 (by decide) (by decide) (by first | rfl | decide) (by decide) ?_
    refine lv_aload_n hx hb dX6_told_44 rfl (lv_at hl 0 rfl) ?_
    refine va_get (D := (dC, dI)) (ci := 5) (v := .ref a_o_now) (C := RX6) (T := TX6) (N := 7) hx hb hts iX6 hown hK hP 0 rfl rfl 1 (by decide) (hts (.fieldLink RX6 23 "PascalRows" "now" "LPascalRows$Setup;") (List.mem_of_getElem? (i := 1) rfl)) (fun _ h9 => h9) rfl dX6_told_45 ?_
    refine va_getN (host := "PascalRows") (D := (dC, dI)) (ci := 2) (v := .int o_now_p) (C := RX3) (T := TX3) (N := 10) hx hb hts iX3 hown hK hP 3 rfl rfl 5 (by decide) (hE.nest 5 rfl rfl) (fun _ h9 => h9) rfl dX6_told_48 ?_
    exact hret 51 ls _ dX6_told_51 (Option.some.inj hr)
  have hr := ite_n hr c_1
  by_cases c_2 : p0 = (1 : Int32)
  · have hr := ite_p hr c_2
    refine W.eq (g2 := F0 m 1 ls (.int (1 : Int32) :: [])) (congrArg (fun z => F0 m 1 ls (.int z :: [])) c_2) ?_
    refine lv_tableIn (tgt := 52) hx hb dX6_told_1 (by decide) (by decide) (by first | rfl | decide) (by decide) ?_
    refine lv_aload_n hx hb dX6_told_52 rfl (lv_at hl 0 rfl) ?_
    refine va_get (D := (dC, dI)) (ci := 5) (v := .ref a_o_now) (C := RX6) (T := TX6) (N := 7) hx hb hts iX6 hown hK hP 0 rfl rfl 1 (by decide) (hts (.fieldLink RX6 23 "PascalRows" "now" "LPascalRows$Setup;") (List.mem_of_getElem? (i := 1) rfl)) (fun _ h9 => h9) rfl dX6_told_53 ?_
    refine va_getN (host := "PascalRows") (D := (dC, dI)) (ci := 2) (v := .int o_now_e) (C := RX3) (T := TX3) (N := 10) hx hb hts iX3 hown hK hP 3 rfl rfl 6 (by decide) (hE.nest 6 rfl rfl) (fun _ h9 => h9) rfl dX6_told_56 ?_
    exact hret 59 ls _ dX6_told_59 (Option.some.inj hr)
  have hr := ite_n hr c_2
  by_cases c_3 : p0 = (2 : Int32)
  · have hr := ite_p hr c_3
    refine W.eq (g2 := F0 m 1 ls (.int (2 : Int32) :: [])) (congrArg (fun z => F0 m 1 ls (.int z :: [])) c_3) ?_
    refine lv_tableIn (tgt := 60) hx hb dX6_told_1 (by decide) (by decide) (by first | rfl | decide) (by decide) ?_
    refine lv_aload_n hx hb dX6_told_60 rfl (lv_at hl 0 rfl) ?_
    refine va_get (D := (dC, dI)) (ci := 5) (v := .ref a_o_now) (C := RX6) (T := TX6) (N := 7) hx hb hts iX6 hown hK hP 0 rfl rfl 1 (by decide) (hts (.fieldLink RX6 23 "PascalRows" "now" "LPascalRows$Setup;") (List.mem_of_getElem? (i := 1) rfl)) (fun _ h9 => h9) rfl dX6_told_61 ?_
    refine va_getN (host := "PascalRows") (D := (dC, dI)) (ci := 2) (v := .int o_now_modulus) (C := RX3) (T := TX3) (N := 10) hx hb hts iX3 hown hK hP 3 rfl rfl 7 (by decide) (hE.nest 0 rfl rfl) (fun _ h9 => h9) rfl dX6_told_64 ?_
    exact hret 67 ls _ dX6_told_67 (Option.some.inj hr)
  have hr := ite_n hr c_3
  by_cases c_4 : p0 = (3 : Int32)
  · have hr := ite_p hr c_4
    refine W.eq (g2 := F0 m 1 ls (.int (3 : Int32) :: [])) (congrArg (fun z => F0 m 1 ls (.int z :: [])) c_4) ?_
    refine lv_tableIn (tgt := 68) hx hb dX6_told_1 (by decide) (by decide) (by first | rfl | decide) (by decide) ?_
    refine lv_aload_n hx hb dX6_told_68 rfl (lv_at hl 0 rfl) ?_
    refine va_get (D := (dC, dI)) (ci := 5) (v := .ref a_o_now) (C := RX6) (T := TX6) (N := 7) hx hb hts iX6 hown hK hP 0 rfl rfl 1 (by decide) (hts (.fieldLink RX6 23 "PascalRows" "now" "LPascalRows$Setup;") (List.mem_of_getElem? (i := 1) rfl)) (fun _ h9 => h9) rfl dX6_told_69 ?_
    refine va_getN (host := "PascalRows") (D := (dC, dI)) (ci := 2) (v := .ref a_o_now_marks) (C := RX3) (T := TX3) (N := 10) hx hb hts iX3 hown hK hP 3 rfl rfl 1 (by decide) (hE.nest 7 rfl rfl) (fun _ h9 => h9) rfl dX6_told_72 ?_
    refine va_getN (host := "PascalRows") (D := (dC, dI)) (ci := 0) (v := .int o_now_marks_size) (C := RX1) (T := TX1) (N := 2) hx hb hts iX1 hown hK hP 4 rfl rfl 1 (by decide) (hE.nest 8 rfl rfl) (fun _ h9 => h9) rfl dX6_told_75 ?_
    exact hret 78 ls _ dX6_told_78 (Option.some.inj hr)
  have hr := ite_n hr c_4
  by_cases c_5 : p0 = (4 : Int32)
  · have hr := ite_p hr c_5
    refine W.eq (g2 := F0 m 1 ls (.int (4 : Int32) :: [])) (congrArg (fun z => F0 m 1 ls (.int z :: [])) c_5) ?_
    refine lv_tableIn (tgt := 79) hx hb dX6_told_1 (by decide) (by decide) (by first | rfl | decide) (by decide) ?_
    refine lv_aload_n hx hb dX6_told_79 rfl (lv_at hl 0 rfl) ?_
    refine va_get (D := (dC, dI)) (ci := 5) (v := .ref a_o_now) (C := RX6) (T := TX6) (N := 7) hx hb hts iX6 hown hK hP 0 rfl rfl 1 (by decide) (hts (.fieldLink RX6 23 "PascalRows" "now" "LPascalRows$Setup;") (List.mem_of_getElem? (i := 1) rfl)) (fun _ h9 => h9) rfl dX6_told_80 ?_
    refine va_getN (host := "PascalRows") (D := (dC, dI)) (ci := 2) (v := .int o_now_windowRow) (C := RX3) (T := TX3) (N := 10) hx hb hts iX3 hown hK hP 3 rfl rfl 8 (by decide) (hE.nest 10 rfl rfl) (fun _ h9 => h9) rfl dX6_told_83 ?_
    exact hret 86 ls _ dX6_told_86 (Option.some.inj hr)
  have hr := ite_n hr c_5
  by_cases c_6 : p0 = (5 : Int32)
  · have hr := ite_p hr c_6
    refine W.eq (g2 := F0 m 1 ls (.int (5 : Int32) :: [])) (congrArg (fun z => F0 m 1 ls (.int z :: [])) c_6) ?_
    refine lv_tableIn (tgt := 87) hx hb dX6_told_1 (by decide) (by decide) (by first | rfl | decide) (by decide) ?_
    refine lv_aload_n hx hb dX6_told_87 rfl (lv_at hl 0 rfl) ?_
    refine va_get (D := (dC, dI)) (ci := 5) (v := .ref a_o_now) (C := RX6) (T := TX6) (N := 7) hx hb hts iX6 hown hK hP 0 rfl rfl 1 (by decide) (hts (.fieldLink RX6 23 "PascalRows" "now" "LPascalRows$Setup;") (List.mem_of_getElem? (i := 1) rfl)) (fun _ h9 => h9) rfl dX6_told_88 ?_
    refine va_getN (host := "PascalRows") (D := (dC, dI)) (ci := 2) (v := .int o_now_windowPlace) (C := RX3) (T := TX3) (N := 10) hx hb hts iX3 hown hK hP 3 rfl rfl 9 (by decide) (hE.nest 11 rfl rfl) (fun _ h9 => h9) rfl dX6_told_91 ?_
    exact hret 94 ls _ dX6_told_94 (Option.some.inj hr)
  have hr := ite_n hr c_6
  by_cases c_7 : p0 = (6 : Int32)
  · have hr := ite_p hr c_7
    refine W.eq (g2 := F0 m 1 ls (.int (6 : Int32) :: [])) (congrArg (fun z => F0 m 1 ls (.int z :: [])) c_7) ?_
    refine lv_tableIn (tgt := 95) hx hb dX6_told_1 (by decide) (by decide) (by first | rfl | decide) (by decide) ?_
    refine lv_aload_n hx hb dX6_told_95 rfl (lv_at hl 0 rfl) ?_
    refine va_get (D := (dC, dI)) (ci := 5) (v := .ref a_o_now) (C := RX6) (T := TX6) (N := 7) hx hb hts iX6 hown hK hP 0 rfl rfl 1 (by decide) (hts (.fieldLink RX6 23 "PascalRows" "now" "LPascalRows$Setup;") (List.mem_of_getElem? (i := 1) rfl)) (fun _ h9 => h9) rfl dX6_told_96 ?_
    obtain ⟨u_8, hu_8, hr⟩ := bd_e hr
    refine ro_V ⟨hx, hb, hml, hown, hts⟩ (k_X3_markedInWindow l dC dI cI cJ a_o_now a_o_triangle a_o_now_marks a_o_now_seen a_o_now_events a_o_now_book a_o_triangle_halves a_o_now_marks_numbers o_now_p o_now_e o_now_modulus o_now_windowRow o_now_windowPlace o_triangle_halves o_now_marks_size o_now_marks_numbers u_8 hu_8) (cwV 0 hts gX6_told_X3_markedInWindow rfl rfl rfl (by decide +kernel) ⟨Nat.le_of_ble_eq_true rfl, Nat.le_of_ble_eq_true rfl⟩) hE hP 3 rfl rfl rfl (hP.sub [3, 1, 2, 4, 5] rfl) rfl hl.1 rfl (Nat.le_of_ble_eq_true rfl) dX6_told_99 ⟨Nat.zero_le _, Nat.zero_le _⟩ ?_
    exact hret 102 ls _ dX6_told_102 (Option.some.inj hr)
  have hr := ite_n hr c_7
  refine lv_tableOut (tgt := 103) hx hb dX6_told_1 (tbl_out (fun k h1 h2 => ?_)) (by decide) ?_
  · rcases (show k = 0 ∨ k = 1 ∨ k = 2 ∨ k = 3 ∨ k = 4 ∨ k = 5 ∨ k = 6 by omega) with rfl | rfl | rfl | rfl | rfl | rfl | rfl
    · exact i32_ne c_1 rfl
    · exact i32_ne c_2 rfl
    · exact i32_ne c_3 rfl
    · exact i32_ne c_4 rfl
    · exact i32_ne c_5 rfl
    · exact i32_ne c_6 rfl
    · exact i32_ne c_7 rfl
  refine lv_iconst (v := (-1 : Int32)) hx hb dX6_told_103 (by decide) ?_
  exact hret 104 ls _ dX6_told_104 (Option.some.inj hr)
/-! X6_markOf -/
def rmX6_markOf : Room := { frames := 2, cells := 0, slots := 0, locals := 45 }
set_option maxHeartbeats 4000000 in
set_option maxRecDepth 100000 in
theorem k_X6_markOf (l : Launch) (dC : Nat → ClassId) (dI : Nat → Nat → Nat) (cI cJ : ClassId) (a_o : Nat) (a_o_triangle : Nat) (a_o_now : Nat) (a_o_kept : Nat) (a_o_trial : Nat) (a_o_reader : Nat) (a_o_tapes : Nat) (a_o_now_marks : Nat) (a_o_now_seen : Nat) (a_o_now_events : Nat) (a_o_now_book : Nat) (a_o_now_marks_numbers : Nat) (p0 : Int32) (p1 : Int32) (o_hasImage : Int32) (o_now_p : Int32) (o_now_e : Int32) (o_now_modulus : Int32) (o_now_windowRow : Int32) (o_now_windowPlace : Int32) (o_now_marks_size : Int32) (o_now_marks_numbers : Nat → Int32) (r : Int32) (hr : f_X6_markOf p0 p1 o_now_marks_numbers o_now_marks_size = some r) : Met l yX6_markOf wsX6_markOf rmX6_markOf (va_Pc [.ref a_o, .int p0, .int p1] (pE (dC, dI) cI cJ [(a_o, .inr (5, [.ref a_o_triangle, .ref a_o_now, .ref a_o_kept, .ref a_o_trial, .ref a_o_reader, .ref a_o_tapes, .int o_hasImage])), (a_o_now, .inr (2, [.ref a_o_triangle, .ref a_o_now_marks, .ref a_o_now_seen, .ref a_o_now_events, .ref a_o_now_book, .int o_now_p, .int o_now_e, .int o_now_modulus, .int o_now_windowRow, .int o_now_windowPlace])), (a_o_now_marks, .inr (0, [.ref a_o_now_marks_numbers, .int o_now_marks_size])), (a_o_now_marks_numbers, .inl (cI, 18, .inl o_now_marks_numbers))])) (rq (.int r)) 0 0 nofree := by
  refine ro_of_i (cc := cX6_markOf) (maxL := 3) (by decide) rfl (Nat.le_of_ble_eq_true rfl) ?_
  intro p e s m args below meth c Q ls hx hb hml hown hts hE hP hret hl
  have hK := hE.1
  have hl : lv_has ls 3 [(0, .ref a_o), (1, .int p0), (2, .int p1)] := hl
  unfold f_X6_markOf at hr
  have iX1 : ∀ w ∈ wsX10, w ∈ wsX6_markOf := memr_ (big := wsX6_markOf) wsX10 [30, 31] (by decide +kernel)
  have iX3 : ∀ w ∈ wsX30, w ∈ wsX6_markOf := memr_ (big := wsX6_markOf) wsX30 [20, 21, 22, 23, 24, 25, 26, 27, 28, 29] (by decide +kernel)
  have iX6 : ∀ w ∈ wsX60, w ∈ wsX6_markOf := memr_ (big := wsX6_markOf) wsX60 [13, 14, 15, 16, 17, 18, 19] (by decide +kernel)
  refine lv_iload_n hx hb dX6_markOf_0 rfl (lv_at hl 1 rfl) ?_
  refine lv_iconst (v := (0 : Int32)) hx hb dX6_markOf_1 (by decide) ?_
  refine lv_aload_n hx hb dX6_markOf_2 rfl (lv_at hl 0 rfl) ?_
  refine va_get (D := (dC, dI)) (ci := 5) (v := .ref a_o_now) (C := RX6) (T := TX6) (N := 7) hx hb hts iX6 hown hK hP 0 rfl rfl 1 (by decide) (hts (.fieldLink RX6 23 "PascalRows" "now" "LPascalRows$Setup;") (List.mem_of_getElem? (i := 1) rfl)) (fun _ h9 => h9) rfl dX6_markOf_3 ?_
  refine va_getN (host := "PascalRows") (D := (dC, dI)) (ci := 2) (v := .ref a_o_now_marks) (C := RX3) (T := TX3) (N := 10) hx hb hts iX3 hown hK hP 1 rfl rfl 1 (by decide) (hE.nest 7 rfl rfl) (fun _ h9 => h9) rfl dX6_markOf_6 ?_
  refine va_getN (host := "PascalRows") (D := (dC, dI)) (ci := 0) (v := .int o_now_marks_size) (C := RX1) (T := TX1) (N := 2) hx hb hts iX1 hown hK hP 2 rfl rfl 1 (by decide) (hE.nest 8 rfl rfl) (fun _ h9 => h9) rfl dX6_markOf_9 ?_
  refine lv_iconst (v := (1 : Int32)) hx hb dX6_markOf_12 (by decide) ?_
  refine lv_isub hx hb dX6_markOf_13 ?_
  refine ro_S ⟨hx, hb, hml, hown, hts⟩ (k_X6_isWithin l dC dI cI cJ p0 (0 : Int32) (o_now_marks_size - (1 : Int32))) (va_cwS 3 hts gX6_markOf_X6_isWithin rfl rfl rfl (by decide +kernel) ⟨Nat.le_of_ble_eq_true rfl, Nat.le_of_ble_eq_true rfl⟩) hE (hP.sub [] rfl) rfl hl.1 rfl (Nat.le_of_ble_eq_true rfl) dX6_markOf_14 ⟨Nat.zero_le _, Nat.zero_le _⟩ ?_
  have tT_2 : (((f_X6_isWithin p0 (0 : Int32) (o_now_marks_size - (1 : Int32))) = 0) ∨ ((f_X6_isWithin p1 (0 : Int32) (1 : Int32)) = 0)) → W p l e rmX6_markOf s m args below meth c s.heap [] 0 0 Q (F0 m 29 ls []) := by
    intro hc_1
    have hr := ite_p hr hc_1
    refine lv_iconst (v := (-1 : Int32)) hx hb dX6_markOf_29 (by decide) ?_
    exact hret 30 ls _ dX6_markOf_30 (Option.some.inj hr)
  have tF_3 : ¬ (((f_X6_isWithin p0 (0 : Int32) (o_now_marks_size - (1 : Int32))) = 0) ∨ ((f_X6_isWithin p1 (0 : Int32) (1 : Int32)) = 0)) → W p l e rmX6_markOf s m args below meth c s.heap [] 0 0 Q (F0 m 31 ls []) := by
    intro hc_1
    have hr := ite_n hr hc_1
    refine lv_aload_n hx hb dX6_markOf_31 rfl (lv_at hl 0 rfl) ?_
    refine va_get (D := (dC, dI)) (ci := 5) (v := .ref a_o_now) (C := RX6) (T := TX6) (N := 7) hx hb hts iX6 hown hK hP 0 rfl rfl 1 (by decide) (hts (.fieldLink RX6 23 "PascalRows" "now" "LPascalRows$Setup;") (List.mem_of_getElem? (i := 1) rfl)) (fun _ h9 => h9) rfl dX6_markOf_32 ?_
    refine va_getN (host := "PascalRows") (D := (dC, dI)) (ci := 2) (v := .ref a_o_now_marks) (C := RX3) (T := TX3) (N := 10) hx hb hts iX3 hown hK hP 1 rfl rfl 1 (by decide) (hE.nest 7 rfl rfl) (fun _ h9 => h9) rfl dX6_markOf_35 ?_
    refine lv_iload_n hx hb dX6_markOf_38 rfl (lv_at hl 1 rfl) ?_
    refine lv_iload_n hx hb dX6_markOf_39 rfl (lv_at hl 2 rfl) ?_
    obtain ⟨u_4, hu_4, hr⟩ := bd_e hr
    refine ro_V ⟨hx, hb, hml, hown, hts⟩ (k_X1_number l dC dI cI cJ a_o_now_marks a_o_now_marks_numbers p0 p1 18 o_now_marks_size o_now_marks_numbers u_4 hu_4) (cwV 2 hts gX6_markOf_X1_number rfl rfl rfl (by decide +kernel) ⟨Nat.le_of_ble_eq_true rfl, Nat.le_of_ble_eq_true rfl⟩) hE hP 2 rfl rfl rfl (hP.sub [2, 3] rfl) rfl hl.1 rfl (Nat.le_of_ble_eq_true rfl) dX6_markOf_40 ⟨Nat.zero_le _, Nat.zero_le _⟩ ?_
    exact hret 43 ls _ dX6_markOf_43 (Option.some.inj hr)
  refine lv_if_eq (tgt := 29) hx hb dX6_markOf_17 (by decide) (fun c_5 => ?_) (fun c_5 => ?_)
  · exact tT_2 (Or.inl c_5)
  · refine lv_iload_n hx hb dX6_markOf_20 rfl (lv_at hl 2 rfl) ?_
    refine lv_iconst (v := (0 : Int32)) hx hb dX6_markOf_21 (by decide) ?_
    refine lv_iconst (v := (1 : Int32)) hx hb dX6_markOf_22 (by decide) ?_
    refine ro_S ⟨hx, hb, hml, hown, hts⟩ (k_X6_isWithin l dC dI cI cJ p1 (0 : Int32) (1 : Int32)) (va_cwS 3 hts gX6_markOf_X6_isWithin rfl rfl rfl (by decide +kernel) ⟨Nat.le_of_ble_eq_true rfl, Nat.le_of_ble_eq_true rfl⟩) hE (hP.sub [] rfl) rfl hl.1 rfl (Nat.le_of_ble_eq_true rfl) dX6_markOf_23 ⟨Nat.zero_le _, Nat.zero_le _⟩ ?_
    refine lv_if_ne (tgt := 31) hx hb dX6_markOf_26 (by decide) (fun c_6 => ?_) (fun c_6 => ?_)
    · exact tF_3 (fun h => h.elim c_5 c_6)
    · exact tT_2 (Or.inr c_6)
/-! X6_at -/
def rmX6_at : Room := { frames := 3, cells := 0, slots := 0, locals := 69 }
set_option maxHeartbeats 4000000 in
set_option maxRecDepth 100000 in
theorem k_X6_at (l : Launch) (dC : Nat → ClassId) (dI : Nat → Nat → Nat) (cI cJ : ClassId) (a_o : Nat) (a_o_triangle : Nat) (a_o_now : Nat) (a_o_kept : Nat) (a_o_trial : Nat) (a_o_reader : Nat) (a_o_tapes : Nat) (a_o_triangle_halves : Nat) (a_o_now_marks : Nat) (a_o_now_seen : Nat) (a_o_now_events : Nat) (a_o_now_book : Nat) (p0 : Int32) (p1 : Int32) (o_hasImage : Int32) (o_triangle_halves : Nat → Int32) (o_now_p : Int32) (o_now_e : Int32) (o_now_modulus : Int32) (o_now_windowRow : Int32) (o_now_windowPlace : Int32) (r : Int32) (hr : f_X6_at p0 p1 o_triangle_halves o_now_modulus = some r) : Met l yX6_at wsX6_at rmX6_at (va_Pc [.ref a_o, .int p0, .int p1] (pE (dC, dI) cI cJ [(a_o, .inr (5, [.ref a_o_triangle, .ref a_o_now, .ref a_o_kept, .ref a_o_trial, .ref a_o_reader, .ref a_o_tapes, .int o_hasImage])), (a_o_triangle, .inr (4, [.ref a_o_triangle_halves])), (a_o_triangle_halves, .inl (cI, 4160, .inl o_triangle_halves)), (a_o_now, .inr (2, [.ref a_o_triangle, .ref a_o_now_marks, .ref a_o_now_seen, .ref a_o_now_events, .ref a_o_now_book, .int o_now_p, .int o_now_e, .int o_now_modulus, .int o_now_windowRow, .int o_now_windowPlace]))])) (rq (.int r)) 0 0 nofree := by
  refine ro_of_i (cc := cX6_at) (maxL := 3) (by decide) rfl (Nat.le_of_ble_eq_true rfl) ?_
  intro p e s m args below meth c Q ls hx hb hml hown hts hE hP hret hl
  have hK := hE.1
  have hl : lv_has ls 3 [(0, .ref a_o), (1, .int p0), (2, .int p1)] := hl
  unfold f_X6_at at hr
  have iX3 : ∀ w ∈ wsX30, w ∈ wsX6_at := memr_ (big := wsX6_at) wsX30 [33, 34, 35, 36, 37, 38, 39, 40, 41, 42] (by decide +kernel)
  have iX5 : ∀ w ∈ wsX50, w ∈ wsX6_at := memr_ (big := wsX6_at) wsX50 [43] (by decide +kernel)
  have iX6 : ∀ w ∈ wsX60, w ∈ wsX6_at := memr_ (big := wsX6_at) wsX60 [26, 27, 28, 29, 30, 31, 32] (by decide +kernel)
  refine lv_iload_n hx hb dX6_at_0 rfl (lv_at hl 1 rfl) ?_
  refine ro_S ⟨hx, hb, hml, hown, hts⟩ (k_X6_isRow l dC dI cI cJ p0) (va_cwS 1 hts gX6_at_X6_isRow rfl rfl rfl (by decide +kernel) ⟨Nat.le_of_ble_eq_true rfl, Nat.le_of_ble_eq_true rfl⟩) hE (hP.sub [] rfl) rfl hl.1 rfl (Nat.le_of_ble_eq_true rfl) dX6_at_1 ⟨Nat.zero_le _, Nat.zero_le _⟩ ?_
  refine lv_if_eq (tgt := 19) hx hb dX6_at_4 (by decide) (fun c_1 => ?_) (fun c_1 => ?_)
  · have hr := ite_p hr c_1
    refine lv_iconst (v := (-1 : Int32)) hx hb dX6_at_19 (by decide) ?_
    exact hret 20 ls _ dX6_at_20 (Option.some.inj hr)
  · have hr := ite_n hr c_1
    refine lv_aload_n hx hb dX6_at_7 rfl (lv_at hl 0 rfl) ?_
    refine va_get (D := (dC, dI)) (ci := 5) (v := .ref a_o_now) (C := RX6) (T := TX6) (N := 7) hx hb hts iX6 hown hK hP 0 rfl rfl 1 (by decide) (hts (.fieldLink RX6 23 "PascalRows" "now" "LPascalRows$Setup;") (List.mem_of_getElem? (i := 1) rfl)) (fun _ h9 => h9) rfl dX6_at_8 ?_
    refine lv_iload_n hx hb dX6_at_11 rfl (lv_at hl 1 rfl) ?_
    refine lv_iload_n hx hb dX6_at_12 rfl (lv_at hl 2 rfl) ?_
    obtain ⟨u_2, hu_2, hr⟩ := bd_e hr
    refine ro_V ⟨hx, hb, hml, hown, hts⟩ (k_X3_remainder l dC dI cI cJ a_o_now a_o_triangle a_o_now_marks a_o_now_seen a_o_now_events a_o_now_book a_o_triangle_halves p0 p1 o_now_p o_now_e o_now_modulus o_now_windowRow o_now_windowPlace o_triangle_halves u_2 hu_2) (cwV 2 hts gX6_at_X3_remainder rfl rfl rfl (by decide +kernel) ⟨Nat.le_of_ble_eq_true rfl, Nat.le_of_ble_eq_true rfl⟩) hE hP 3 rfl rfl rfl (hP.sub [3, 1, 2] rfl) rfl hl.1 rfl (Nat.le_of_ble_eq_true rfl) dX6_at_13 ⟨Nat.zero_le _, Nat.zero_le _⟩ ?_
    refine lv_goto (tgt := 20) hx hb dX6_at_16 (by decide) ?_
    exact hret 20 ls _ dX6_at_20 (Option.some.inj hr)
/-! X6_addEvent -/
def rmX6_addEvent : Room := { frames := 1, cells := 0, slots := 0, locals := 24 }
set_option maxHeartbeats 4000000 in
set_option maxRecDepth 100000 in
theorem k_X6_addEvent (l : Launch) (dC : Nat → ClassId) (dI : Nat → Nat → Nat) (cI cJ : ClassId) (a_o : Nat) (a_o_triangle : Nat) (a_o_now : Nat) (a_o_kept : Nat) (a_o_trial : Nat) (a_o_reader : Nat) (a_o_tapes : Nat) (a_o_now_marks : Nat) (a_o_now_seen : Nat) (a_o_now_events : Nat) (a_o_now_book : Nat) (a_o_now_events_numbers : Nat) (p0 : Int32) (p1 : Int32) (p2 : Int32) (p3 : Int32) (o_hasImage : Int32) (o_now_p : Int32) (o_now_e : Int32) (o_now_modulus : Int32) (o_now_windowRow : Int32) (o_now_windowPlace : Int32) (o_now_events_size : Int32) (o_now_events_numbers : Nat → Int32) (sz : Nat) (r : Int32 × (Nat → Int32) × Int32) (hr : f_X6_addEvent p0 p1 p2 p3 o_now_events_numbers o_now_events_size = some r) : Met l yX6_addEvent wsX6_addEvent rmX6_addEvent (va_Pc [.ref a_o, .int p0, .int p1, .int p2, .int p3] (pM (dC, dI) cI cJ [(a_o, .inr (5, [.ref a_o_triangle, .ref a_o_now, .ref a_o_kept, .ref a_o_trial, .ref a_o_reader, .ref a_o_tapes, .int o_hasImage])), (a_o_now, .inr (2, [.ref a_o_triangle, .ref a_o_now_marks, .ref a_o_now_seen, .ref a_o_now_events, .ref a_o_now_book, .int o_now_p, .int o_now_e, .int o_now_modulus, .int o_now_windowRow, .int o_now_windowPlace])), (a_o_now_events, .inr (0, [.ref a_o_now_events_numbers, .int o_now_events_size])), (a_o_now_events_numbers, .inl (cI, 24, .inl o_now_events_numbers))] sz)) (qM (some (.int r.1)) (dC, dI) [(a_o, .inr (5, [.ref a_o_triangle, .ref a_o_now, .ref a_o_kept, .ref a_o_trial, .ref a_o_reader, .ref a_o_tapes, .int o_hasImage])), (a_o_now, .inr (2, [.ref a_o_triangle, .ref a_o_now_marks, .ref a_o_now_seen, .ref a_o_now_events, .ref a_o_now_book, .int o_now_p, .int o_now_e, .int o_now_modulus, .int o_now_windowRow, .int o_now_windowPlace])), (a_o_now_events, .inr (0, [.ref a_o_now_events_numbers, .int r.2.2])), (a_o_now_events_numbers, .inl (cI, 24, .inl r.2.1))] (va_A [(a_o, .inr (5, [.ref a_o_triangle, .ref a_o_now, .ref a_o_kept, .ref a_o_trial, .ref a_o_reader, .ref a_o_tapes, .int o_hasImage])), (a_o_now, .inr (2, [.ref a_o_triangle, .ref a_o_now_marks, .ref a_o_now_seen, .ref a_o_now_events, .ref a_o_now_book, .int o_now_p, .int o_now_e, .int o_now_modulus, .int o_now_windowRow, .int o_now_windowPlace])), (a_o_now_events, .inr (0, [.ref a_o_now_events_numbers, .int o_now_events_size])), (a_o_now_events_numbers, .inl (cI, 24, .inl o_now_events_numbers))] sz)) 0 0 (va_A [(a_o, .inr (5, [.ref a_o_triangle, .ref a_o_now, .ref a_o_kept, .ref a_o_trial, .ref a_o_reader, .ref a_o_tapes, .int o_hasImage])), (a_o_now, .inr (2, [.ref a_o_triangle, .ref a_o_now_marks, .ref a_o_now_seen, .ref a_o_now_events, .ref a_o_now_book, .int o_now_p, .int o_now_e, .int o_now_modulus, .int o_now_windowRow, .int o_now_windowPlace])), (a_o_now_events, .inr (0, [.ref a_o_now_events_numbers, .int o_now_events_size])), (a_o_now_events_numbers, .inl (cI, 24, .inl o_now_events_numbers))] sz) := by
  refine mu_of (cc := cX6_addEvent) (maxL := 5) (by decide) rfl (Nat.le_of_ble_eq_true rfl) ?_
  intro p e s m args below meth c Q ls A hx hb hml hown hts hE hP hD hA hrt hlocks hret hl
  have hK := hE.1
  have hS : va_S A s.heap s.heap [] := va_S.rf
  have hl : lv_has ls 5 [(0, .ref a_o), (1, .int p0), (2, .int p1), (3, .int p2), (4, .int p3)] := hl
  unfold f_X6_addEvent at hr
  obtain ⟨H, hHe⟩ : ∃ H, H = s.heap := ⟨_, rfl⟩
  obtain ⟨locs, hLe⟩ : ∃ locs : List Loc, locs = [] := ⟨_, rfl⟩
  suffices hgo : va_P (dC, dI) vwCl [(a_o, .inr (5, [.ref a_o_triangle, .ref a_o_now, .ref a_o_kept, .ref a_o_trial, .ref a_o_reader, .ref a_o_tapes, .int o_hasImage])), (a_o_now, .inr (2, [.ref a_o_triangle, .ref a_o_now_marks, .ref a_o_now_seen, .ref a_o_now_events, .ref a_o_now_book, .int o_now_p, .int o_now_e, .int o_now_modulus, .int o_now_windowRow, .int o_now_windowPlace])), (a_o_now_events, .inr (0, [.ref a_o_now_events_numbers, .int o_now_events_size])), (a_o_now_events_numbers, .inl (cI, 24, .inl o_now_events_numbers))] H → va_S A s.heap H locs → W p l e rmX6_addEvent s m args below meth c H locs 0 0 Q (F0 m 0 ls []) by
    subst hHe; subst hLe; exact hgo hP hS
  clear hP hS hHe hLe
  intro hP hS
  have iX1 : ∀ w ∈ wsX10, w ∈ wsX6_addEvent := memr_ (big := wsX6_addEvent) wsX10 [30, 31] (by decide +kernel)
  have iX3 : ∀ w ∈ wsX30, w ∈ wsX6_addEvent := memr_ (big := wsX6_addEvent) wsX30 [20, 21, 22, 23, 24, 25, 26, 27, 28, 29] (by decide +kernel)
  have iX6 : ∀ w ∈ wsX60, w ∈ wsX6_addEvent := memr_ (big := wsX6_addEvent) wsX60 [13, 14, 15, 16, 17, 18, 19] (by decide +kernel)
  refine lv_iload_n hx hb dX6_addEvent_0 rfl (lv_at hl 2 rfl) ?_
  refine lv_iload_n hx hb dX6_addEvent_1 rfl (lv_at hl 3 rfl) ?_
  refine lv_iload hx hb dX6_addEvent_2 (lv_at hl 4 rfl) ?_
  refine ro_S ⟨hx, hb, hml, hown, hts⟩ (k_X6_isWithin l dC dI cI cJ p1 p2 p3) (va_cwS 3 hts gX6_addEvent_X6_isWithin rfl rfl rfl (by decide +kernel) ⟨Nat.le_of_ble_eq_true rfl, Nat.le_of_ble_eq_true rfl⟩) hE (hP.sub [] rfl) rfl hl.1 rfl (Nat.le_of_ble_eq_true rfl) dX6_addEvent_4 ⟨Nat.zero_le _, Nat.zero_le _⟩ ?_
  refine lv_if_eq (tgt := 26) hx hb dX6_addEvent_7 (by decide) (fun c_1 => ?_) (fun c_1 => ?_)
  · have hr := ite_p hr c_1
    refine lv_bipush (v := (-2 : Int32)) hx hb dX6_addEvent_26 (by decide) ?_
    obtain rfl := Option.some.inj hr
    exact hret H locs _ hP hS (fun Qc free hq hf => W.iret hx hb hrt hq hf dX6_addEvent_28 hlocks)
  · have hr := ite_n hr c_1
    refine lv_aload_n hx hb dX6_addEvent_10 rfl (lv_at hl 0 rfl) ?_
    refine va_get (D := (dC, dI)) (ci := 5) (v := .ref a_o_now) (C := RX6) (T := TX6) (N := 7) hx hb hts iX6 hown hK hP 0 rfl rfl 1 (by decide) (hts (.fieldLink RX6 23 "PascalRows" "now" "LPascalRows$Setup;") (List.mem_of_getElem? (i := 1) rfl)) (fun _ h9 => h9) rfl dX6_addEvent_11 ?_
    refine va_getN (host := "PascalRows") (D := (dC, dI)) (ci := 2) (v := .ref a_o_now_events) (C := RX3) (T := TX3) (N := 10) hx hb hts iX3 hown hK hP 1 rfl rfl 3 (by decide) (hE.nest 2 rfl rfl) (fun _ h9 => h9) rfl dX6_addEvent_14 ?_
    refine lv_iload_n hx hb dX6_addEvent_17 rfl (lv_at hl 1 rfl) ?_
    refine lv_iload_n hx hb dX6_addEvent_18 rfl (lv_at hl 2 rfl) ?_
    refine lv_iconst (v := (0 : Int32)) hx hb dX6_addEvent_19 (by decide) ?_
    obtain ⟨u_2, hu_2, hr⟩ := bd_e hr
    refine mu_V ⟨hx, hb, hml, hown, hts⟩ (k_X1_add l dC dI cI cJ a_o_now_events a_o_now_events_numbers p0 p1 (0 : Int32) 24 o_now_events_size o_now_events_numbers H.size u_2 hu_2) (cwV 3 hts gX6_addEvent_X1_add rfl rfl rfl (by decide +kernel) ⟨Nat.le_of_ble_eq_true rfl, Nat.le_of_ble_eq_true rfl⟩) hE 2 rfl rfl rfl rfl hl.1 rfl (Nat.le_of_ble_eq_true rfl) dX6_addEvent_20 ⟨Nat.zero_le _, Nat.zero_le _⟩ hP (hD.fst rfl) hS hA [2, 3] [0, 1] [0, 1, 2, 3] rfl rfl (by decide) (by decide) rfl (by decide) (W1 := [(a_o, .inr (5, [.ref a_o_triangle, .ref a_o_now, .ref a_o_kept, .ref a_o_trial, .ref a_o_reader, .ref a_o_tapes, .int o_hasImage])), (a_o_now, .inr (2, [.ref a_o_triangle, .ref a_o_now_marks, .ref a_o_now_seen, .ref a_o_now_events, .ref a_o_now_book, .int o_now_p, .int o_now_e, .int o_now_modulus, .int o_now_windowRow, .int o_now_windowPlace])), (a_o_now_events, .inr (0, [.ref a_o_now_events_numbers, .int u_2.2.2])), (a_o_now_events_numbers, .inl (cI, 24, .inl u_2.2.1))]) rfl (fun H locs hP hS => W.eq (g2 := F0 m 23 ls [.int u_2.1]) rfl ?_)
    refine lv_goto (tgt := 28) hx hb dX6_addEvent_23 (by decide) ?_
    obtain rfl := Option.some.inj hr
    exact hret H locs _ hP hS (fun Qc free hq hf => W.iret hx hb hrt hq hf dX6_addEvent_28 hlocks)
/-! X6_event -/
def rmX6_event : Room := { frames := 2, cells := 0, slots := 0, locals := 48 }
set_option maxHeartbeats 4000000 in
set_option maxRecDepth 100000 in
theorem k_X6_event (l : Launch) (dC : Nat → ClassId) (dI : Nat → Nat → Nat) (cI cJ : ClassId) (a_o : Nat) (a_o_triangle : Nat) (a_o_now : Nat) (a_o_kept : Nat) (a_o_trial : Nat) (a_o_reader : Nat) (a_o_tapes : Nat) (a_o_now_marks : Nat) (a_o_now_seen : Nat) (a_o_now_events : Nat) (a_o_now_book : Nat) (a_o_now_events_numbers : Nat) (p0 : Int32) (p1 : Int32) (o_hasImage : Int32) (o_now_p : Int32) (o_now_e : Int32) (o_now_modulus : Int32) (o_now_windowRow : Int32) (o_now_windowPlace : Int32) (o_now_events_size : Int32) (o_now_events_numbers : Nat → Int32) (sz : Nat) (r : Int32 × (Nat → Int32) × Int32) (hr : f_X6_event p0 p1 o_now_events_numbers o_now_events_size = some r) : Met l yX6_event wsX6_event rmX6_event (va_Pc [.ref a_o, .int p0, .int p1] (pM (dC, dI) cI cJ [(a_o, .inr (5, [.ref a_o_triangle, .ref a_o_now, .ref a_o_kept, .ref a_o_trial, .ref a_o_reader, .ref a_o_tapes, .int o_hasImage])), (a_o_now, .inr (2, [.ref a_o_triangle, .ref a_o_now_marks, .ref a_o_now_seen, .ref a_o_now_events, .ref a_o_now_book, .int o_now_p, .int o_now_e, .int o_now_modulus, .int o_now_windowRow, .int o_now_windowPlace])), (a_o_now_events, .inr (0, [.ref a_o_now_events_numbers, .int o_now_events_size])), (a_o_now_events_numbers, .inl (cI, 24, .inl o_now_events_numbers))] sz)) (qM (some (.int r.1)) (dC, dI) [(a_o, .inr (5, [.ref a_o_triangle, .ref a_o_now, .ref a_o_kept, .ref a_o_trial, .ref a_o_reader, .ref a_o_tapes, .int o_hasImage])), (a_o_now, .inr (2, [.ref a_o_triangle, .ref a_o_now_marks, .ref a_o_now_seen, .ref a_o_now_events, .ref a_o_now_book, .int o_now_p, .int o_now_e, .int o_now_modulus, .int o_now_windowRow, .int o_now_windowPlace])), (a_o_now_events, .inr (0, [.ref a_o_now_events_numbers, .int r.2.2])), (a_o_now_events_numbers, .inl (cI, 24, .inl r.2.1))] (va_A [(a_o, .inr (5, [.ref a_o_triangle, .ref a_o_now, .ref a_o_kept, .ref a_o_trial, .ref a_o_reader, .ref a_o_tapes, .int o_hasImage])), (a_o_now, .inr (2, [.ref a_o_triangle, .ref a_o_now_marks, .ref a_o_now_seen, .ref a_o_now_events, .ref a_o_now_book, .int o_now_p, .int o_now_e, .int o_now_modulus, .int o_now_windowRow, .int o_now_windowPlace])), (a_o_now_events, .inr (0, [.ref a_o_now_events_numbers, .int o_now_events_size])), (a_o_now_events_numbers, .inl (cI, 24, .inl o_now_events_numbers))] sz)) 0 0 (va_A [(a_o, .inr (5, [.ref a_o_triangle, .ref a_o_now, .ref a_o_kept, .ref a_o_trial, .ref a_o_reader, .ref a_o_tapes, .int o_hasImage])), (a_o_now, .inr (2, [.ref a_o_triangle, .ref a_o_now_marks, .ref a_o_now_seen, .ref a_o_now_events, .ref a_o_now_book, .int o_now_p, .int o_now_e, .int o_now_modulus, .int o_now_windowRow, .int o_now_windowPlace])), (a_o_now_events, .inr (0, [.ref a_o_now_events_numbers, .int o_now_events_size])), (a_o_now_events_numbers, .inl (cI, 24, .inl o_now_events_numbers))] sz) := by
  refine mu_of (cc := cX6_event) (maxL := 3) (by decide) rfl (Nat.le_of_ble_eq_true rfl) ?_
  intro p e s m args below meth c Q ls A hx hb hml hown hts hE hP hD hA hrt hlocks hret hl
  have hK := hE.1
  have hS : va_S A s.heap s.heap [] := va_S.rf
  have hl : lv_has ls 3 [(0, .ref a_o), (1, .int p0), (2, .int p1)] := hl
  unfold f_X6_event at hr
  obtain ⟨H, hHe⟩ : ∃ H, H = s.heap := ⟨_, rfl⟩
  obtain ⟨locs, hLe⟩ : ∃ locs : List Loc, locs = [] := ⟨_, rfl⟩
  suffices hgo : va_P (dC, dI) vwCl [(a_o, .inr (5, [.ref a_o_triangle, .ref a_o_now, .ref a_o_kept, .ref a_o_trial, .ref a_o_reader, .ref a_o_tapes, .int o_hasImage])), (a_o_now, .inr (2, [.ref a_o_triangle, .ref a_o_now_marks, .ref a_o_now_seen, .ref a_o_now_events, .ref a_o_now_book, .int o_now_p, .int o_now_e, .int o_now_modulus, .int o_now_windowRow, .int o_now_windowPlace])), (a_o_now_events, .inr (0, [.ref a_o_now_events_numbers, .int o_now_events_size])), (a_o_now_events_numbers, .inl (cI, 24, .inl o_now_events_numbers))] H → va_S A s.heap H locs → W p l e rmX6_event s m args below meth c H locs 0 0 Q (F0 m 0 ls []) by
    subst hHe; subst hLe; exact hgo hP hS
  clear hP hS hHe hLe
  intro hP hS
  have iX1 : ∀ w ∈ wsX10, w ∈ wsX6_event := memr_ (big := wsX6_event) wsX10 [38, 39] (by decide +kernel)
  have iX3 : ∀ w ∈ wsX30, w ∈ wsX6_event := memr_ (big := wsX6_event) wsX30 [28, 29, 30, 31, 32, 33, 34, 35, 36, 37] (by decide +kernel)
  have iX6 : ∀ w ∈ wsX60, w ∈ wsX6_event := memr_ (big := wsX6_event) wsX60 [21, 22, 23, 24, 25, 26, 27] (by decide +kernel)
  refine lv_iload_n hx hb dX6_event_0 rfl (lv_at hl 1 rfl) ?_
  refine lv_iconst (v := (-1 : Int32)) hx hb dX6_event_1 (by decide) ?_
  refine lv_icmp_ne (tgt := 17) hx hb dX6_event_2 (by decide) (fun c_1 => ?_) (fun c_1 => ?_)
  · have hr := ite_n hr c_1
    refine lv_iload_n hx hb dX6_event_17 rfl (lv_at hl 1 rfl) ?_
    by_cases c_2 : p0 = (0 : Int32)
    · have hr := ite_p hr c_2
      refine W.eq (g2 := F0 m 18 ls (.int (0 : Int32) :: [])) (congrArg (fun z => F0 m 18 ls (.int z :: [])) c_2) ?_
      refine lv_tableIn (tgt := 48) hx hb dX6_event_18 (by decide) (by decide) (by first | rfl | decide) (by decide) ?_
      refine lv_aload_n hx hb dX6_event_48 rfl (lv_at hl 0 rfl) ?_
      refine lv_iload_n hx hb dX6_event_49 rfl (lv_at hl 1 rfl) ?_
      refine lv_iload_n hx hb dX6_event_50 rfl (lv_at hl 2 rfl) ?_
      refine lv_iconst (v := (0 : Int32)) hx hb dX6_event_51 (by decide) ?_
      refine lv_iconst (v := (0 : Int32)) hx hb dX6_event_52 (by decide) ?_
      obtain ⟨u_3, hu_3, hr⟩ := bd_e hr
      refine mu_V ⟨hx, hb, hml, hown, hts⟩ (k_X6_addEvent l dC dI cI cJ a_o a_o_triangle a_o_now a_o_kept a_o_trial a_o_reader a_o_tapes a_o_now_marks a_o_now_seen a_o_now_events a_o_now_book a_o_now_events_numbers p0 p1 (0 : Int32) (0 : Int32) o_hasImage o_now_p o_now_e o_now_modulus o_now_windowRow o_now_windowPlace o_now_events_size o_now_events_numbers H.size u_3 hu_3) (cwV 4 hts gX6_event_X6_addEvent rfl rfl rfl (by decide +kernel) ⟨Nat.le_of_ble_eq_true rfl, Nat.le_of_ble_eq_true rfl⟩) hE 0 rfl rfl rfl rfl hl.1 rfl (Nat.le_of_ble_eq_true rfl) dX6_event_53 ⟨Nat.zero_le _, Nat.zero_le _⟩ hP (hD.fst rfl) hS hA [0, 1, 2, 3] [] [0, 1, 2, 3] rfl rfl (by decide) (by decide) rfl (by decide) (W1 := [(a_o, .inr (5, [.ref a_o_triangle, .ref a_o_now, .ref a_o_kept, .ref a_o_trial, .ref a_o_reader, .ref a_o_tapes, .int o_hasImage])), (a_o_now, .inr (2, [.ref a_o_triangle, .ref a_o_now_marks, .ref a_o_now_seen, .ref a_o_now_events, .ref a_o_now_book, .int o_now_p, .int o_now_e, .int o_now_modulus, .int o_now_windowRow, .int o_now_windowPlace])), (a_o_now_events, .inr (0, [.ref a_o_now_events_numbers, .int u_3.2.2])), (a_o_now_events_numbers, .inl (cI, 24, .inl u_3.2.1))]) rfl (fun H locs hP hS => W.eq (g2 := F0 m 56 ls [.int u_3.1]) rfl ?_)
      obtain rfl := Option.some.inj hr
      exact hret H locs _ hP hS (fun Qc free hq hf => W.iret hx hb hrt hq hf dX6_event_56 hlocks)
    have hr := ite_n hr c_2
    by_cases c_4 : p0 = (1 : Int32)
    · have hr := ite_p hr c_4
      refine W.eq (g2 := F0 m 18 ls (.int (1 : Int32) :: [])) (congrArg (fun z => F0 m 18 ls (.int z :: [])) c_4) ?_
      refine lv_tableIn (tgt := 57) hx hb dX6_event_18 (by decide) (by decide) (by first | rfl | decide) (by decide) ?_
      refine lv_aload_n hx hb dX6_event_57 rfl (lv_at hl 0 rfl) ?_
      refine lv_iload_n hx hb dX6_event_58 rfl (lv_at hl 1 rfl) ?_
      refine lv_iload_n hx hb dX6_event_59 rfl (lv_at hl 2 rfl) ?_
      refine lv_iconst (v := (1 : Int32)) hx hb dX6_event_60 (by decide) ?_
      refine lv_iconst (v := (4 : Int32)) hx hb dX6_event_61 (by decide) ?_
      obtain ⟨u_5, hu_5, hr⟩ := bd_e hr
      refine mu_V ⟨hx, hb, hml, hown, hts⟩ (k_X6_addEvent l dC dI cI cJ a_o a_o_triangle a_o_now a_o_kept a_o_trial a_o_reader a_o_tapes a_o_now_marks a_o_now_seen a_o_now_events a_o_now_book a_o_now_events_numbers p0 p1 (1 : Int32) (4 : Int32) o_hasImage o_now_p o_now_e o_now_modulus o_now_windowRow o_now_windowPlace o_now_events_size o_now_events_numbers H.size u_5 hu_5) (cwV 4 hts gX6_event_X6_addEvent rfl rfl rfl (by decide +kernel) ⟨Nat.le_of_ble_eq_true rfl, Nat.le_of_ble_eq_true rfl⟩) hE 0 rfl rfl rfl rfl hl.1 rfl (Nat.le_of_ble_eq_true rfl) dX6_event_62 ⟨Nat.zero_le _, Nat.zero_le _⟩ hP (hD.fst rfl) hS hA [0, 1, 2, 3] [] [0, 1, 2, 3] rfl rfl (by decide) (by decide) rfl (by decide) (W1 := [(a_o, .inr (5, [.ref a_o_triangle, .ref a_o_now, .ref a_o_kept, .ref a_o_trial, .ref a_o_reader, .ref a_o_tapes, .int o_hasImage])), (a_o_now, .inr (2, [.ref a_o_triangle, .ref a_o_now_marks, .ref a_o_now_seen, .ref a_o_now_events, .ref a_o_now_book, .int o_now_p, .int o_now_e, .int o_now_modulus, .int o_now_windowRow, .int o_now_windowPlace])), (a_o_now_events, .inr (0, [.ref a_o_now_events_numbers, .int u_5.2.2])), (a_o_now_events_numbers, .inl (cI, 24, .inl u_5.2.1))]) rfl (fun H locs hP hS => W.eq (g2 := F0 m 65 ls [.int u_5.1]) rfl ?_)
      obtain rfl := Option.some.inj hr
      exact hret H locs _ hP hS (fun Qc free hq hf => W.iret hx hb hrt hq hf dX6_event_65 hlocks)
    have hr := ite_n hr c_4
    by_cases c_6 : p0 = (2 : Int32)
    · have hr := ite_p hr c_6
      refine W.eq (g2 := F0 m 18 ls (.int (2 : Int32) :: [])) (congrArg (fun z => F0 m 18 ls (.int z :: [])) c_6) ?_
      refine lv_tableIn (tgt := 66) hx hb dX6_event_18 (by decide) (by decide) (by first | rfl | decide) (by decide) ?_
      refine lv_aload_n hx hb dX6_event_66 rfl (lv_at hl 0 rfl) ?_
      refine lv_iload_n hx hb dX6_event_67 rfl (lv_at hl 1 rfl) ?_
      refine lv_iload_n hx hb dX6_event_68 rfl (lv_at hl 2 rfl) ?_
      refine lv_iconst (v := (0 : Int32)) hx hb dX6_event_69 (by decide) ?_
      refine lv_bipush (v := (99 : Int32)) hx hb dX6_event_70 (by decide) ?_
      obtain ⟨u_7, hu_7, hr⟩ := bd_e hr
      refine mu_V ⟨hx, hb, hml, hown, hts⟩ (k_X6_addEvent l dC dI cI cJ a_o a_o_triangle a_o_now a_o_kept a_o_trial a_o_reader a_o_tapes a_o_now_marks a_o_now_seen a_o_now_events a_o_now_book a_o_now_events_numbers p0 p1 (0 : Int32) (99 : Int32) o_hasImage o_now_p o_now_e o_now_modulus o_now_windowRow o_now_windowPlace o_now_events_size o_now_events_numbers H.size u_7 hu_7) (cwV 4 hts gX6_event_X6_addEvent rfl rfl rfl (by decide +kernel) ⟨Nat.le_of_ble_eq_true rfl, Nat.le_of_ble_eq_true rfl⟩) hE 0 rfl rfl rfl rfl hl.1 rfl (Nat.le_of_ble_eq_true rfl) dX6_event_72 ⟨Nat.zero_le _, Nat.zero_le _⟩ hP (hD.fst rfl) hS hA [0, 1, 2, 3] [] [0, 1, 2, 3] rfl rfl (by decide) (by decide) rfl (by decide) (W1 := [(a_o, .inr (5, [.ref a_o_triangle, .ref a_o_now, .ref a_o_kept, .ref a_o_trial, .ref a_o_reader, .ref a_o_tapes, .int o_hasImage])), (a_o_now, .inr (2, [.ref a_o_triangle, .ref a_o_now_marks, .ref a_o_now_seen, .ref a_o_now_events, .ref a_o_now_book, .int o_now_p, .int o_now_e, .int o_now_modulus, .int o_now_windowRow, .int o_now_windowPlace])), (a_o_now_events, .inr (0, [.ref a_o_now_events_numbers, .int u_7.2.2])), (a_o_now_events_numbers, .inl (cI, 24, .inl u_7.2.1))]) rfl (fun H locs hP hS => W.eq (g2 := F0 m 75 ls [.int u_7.1]) rfl ?_)
      obtain rfl := Option.some.inj hr
      exact hret H locs _ hP hS (fun Qc free hq hf => W.iret hx hb hrt hq hf dX6_event_75 hlocks)
    have hr := ite_n hr c_6
    by_cases c_8 : p0 = (3 : Int32)
    · have hr := ite_p hr c_8
      refine W.eq (g2 := F0 m 18 ls (.int (3 : Int32) :: [])) (congrArg (fun z => F0 m 18 ls (.int z :: [])) c_8) ?_
      refine lv_tableIn (tgt := 76) hx hb dX6_event_18 (by decide) (by decide) (by first | rfl | decide) (by decide) ?_
      refine lv_aload_n hx hb dX6_event_76 rfl (lv_at hl 0 rfl) ?_
      refine lv_iload_n hx hb dX6_event_77 rfl (lv_at hl 1 rfl) ?_
      refine lv_iload_n hx hb dX6_event_78 rfl (lv_at hl 2 rfl) ?_
      refine lv_iconst (v := (0 : Int32)) hx hb dX6_event_79 (by decide) ?_
      refine lv_iconst (v := (5 : Int32)) hx hb dX6_event_80 (by decide) ?_
      obtain ⟨u_9, hu_9, hr⟩ := bd_e hr
      refine mu_V ⟨hx, hb, hml, hown, hts⟩ (k_X6_addEvent l dC dI cI cJ a_o a_o_triangle a_o_now a_o_kept a_o_trial a_o_reader a_o_tapes a_o_now_marks a_o_now_seen a_o_now_events a_o_now_book a_o_now_events_numbers p0 p1 (0 : Int32) (5 : Int32) o_hasImage o_now_p o_now_e o_now_modulus o_now_windowRow o_now_windowPlace o_now_events_size o_now_events_numbers H.size u_9 hu_9) (cwV 4 hts gX6_event_X6_addEvent rfl rfl rfl (by decide +kernel) ⟨Nat.le_of_ble_eq_true rfl, Nat.le_of_ble_eq_true rfl⟩) hE 0 rfl rfl rfl rfl hl.1 rfl (Nat.le_of_ble_eq_true rfl) dX6_event_81 ⟨Nat.zero_le _, Nat.zero_le _⟩ hP (hD.fst rfl) hS hA [0, 1, 2, 3] [] [0, 1, 2, 3] rfl rfl (by decide) (by decide) rfl (by decide) (W1 := [(a_o, .inr (5, [.ref a_o_triangle, .ref a_o_now, .ref a_o_kept, .ref a_o_trial, .ref a_o_reader, .ref a_o_tapes, .int o_hasImage])), (a_o_now, .inr (2, [.ref a_o_triangle, .ref a_o_now_marks, .ref a_o_now_seen, .ref a_o_now_events, .ref a_o_now_book, .int o_now_p, .int o_now_e, .int o_now_modulus, .int o_now_windowRow, .int o_now_windowPlace])), (a_o_now_events, .inr (0, [.ref a_o_now_events_numbers, .int u_9.2.2])), (a_o_now_events_numbers, .inl (cI, 24, .inl u_9.2.1))]) rfl (fun H locs hP hS => W.eq (g2 := F0 m 84 ls [.int u_9.1]) rfl ?_)
      obtain rfl := Option.some.inj hr
      exact hret H locs _ hP hS (fun Qc free hq hf => W.iret hx hb hrt hq hf dX6_event_84 hlocks)
    have hr := ite_n hr c_8
    refine lv_tableOut (tgt := 85) hx hb dX6_event_18 (tbl_out (fun k h1 h2 => ?_)) (by decide) ?_
    · rcases (show k = 0 ∨ k = 1 ∨ k = 2 ∨ k = 3 by omega) with rfl | rfl | rfl | rfl
      · exact i32_ne c_2 rfl
      · exact i32_ne c_4 rfl
      · exact i32_ne c_6 rfl
      · exact i32_ne c_8 rfl
    refine lv_iconst (v := (-1 : Int32)) hx hb dX6_event_85 (by decide) ?_
    obtain rfl := Option.some.inj hr
    exact hret H locs _ hP hS (fun Qc free hq hf => W.iret hx hb hrt hq hf dX6_event_86 hlocks)
  · have hr := ite_p hr c_1
    refine lv_aload_n hx hb dX6_event_5 rfl (lv_at hl 0 rfl) ?_
    refine va_get (D := (dC, dI)) (ci := 5) (v := .ref a_o_now) (C := RX6) (T := TX6) (N := 7) hx hb hts iX6 hown hK hP 0 rfl rfl 1 (by decide) (hts (.fieldLink RX6 23 "PascalRows" "now" "LPascalRows$Setup;") (List.mem_of_getElem? (i := 1) rfl)) (fun _ h9 => h9) rfl dX6_event_6 ?_
    refine va_getN (host := "PascalRows") (D := (dC, dI)) (ci := 2) (v := .ref a_o_now_events) (C := RX3) (T := TX3) (N := 10) hx hb hts iX3 hown hK hP 1 rfl rfl 3 (by decide) (hE.nest 2 rfl rfl) (fun _ h9 => h9) rfl dX6_event_9 ?_
    obtain ⟨u_10, hu_10, hr⟩ := bd_e hr
    refine mu_V ⟨hx, hb, hml, hown, hts⟩ (k_X1_empty l dC dI cI cJ a_o_now_events a_o_now_events_numbers o_now_events_size H.size u_10 hu_10) (cwV 0 hts gX6_event_X1_empty rfl rfl rfl (by decide +kernel) ⟨Nat.le_of_ble_eq_true rfl, Nat.le_of_ble_eq_true rfl⟩) hE 2 rfl rfl rfl rfl hl.1 rfl (Nat.le_of_ble_eq_true rfl) dX6_event_12 ⟨Nat.zero_le _, Nat.zero_le _⟩ hP (hD.fst rfl) hS hA [2] [0, 1, 3] [0, 1, 3, 2] rfl rfl (by decide) (by decide) rfl (by decide) (W1 := [(a_o, .inr (5, [.ref a_o_triangle, .ref a_o_now, .ref a_o_kept, .ref a_o_trial, .ref a_o_reader, .ref a_o_tapes, .int o_hasImage])), (a_o_now, .inr (2, [.ref a_o_triangle, .ref a_o_now_marks, .ref a_o_now_seen, .ref a_o_now_events, .ref a_o_now_book, .int o_now_p, .int o_now_e, .int o_now_modulus, .int o_now_windowRow, .int o_now_windowPlace])), (a_o_now_events, .inr (0, [.ref a_o_now_events_numbers, .int u_10])), (a_o_now_events_numbers, .inl (cI, 24, .inl o_now_events_numbers))]) rfl (fun H locs hP hS => W.eq (g2 := F0 m 15 ls []) rfl ?_)
    refine lv_iconst (v := (0 : Int32)) hx hb dX6_event_15 (by decide) ?_
    obtain rfl := Option.some.inj hr
    exact hret H locs _ hP hS (fun Qc free hq hf => W.iret hx hb hrt hq hf dX6_event_16 hlocks)
/-! X6_after -/
def rmX6_after : Room := { frames := 6, cells := 0, slots := 0, locals := 142 }
set_option maxHeartbeats 4000000 in
set_option maxRecDepth 100000 in
theorem k_X6_after (l : Launch) (dC : Nat → ClassId) (dI : Nat → Nat → Nat) (cI cJ : ClassId) (a_o : Nat) (a_o_triangle : Nat) (a_o_now : Nat) (a_o_kept : Nat) (a_o_trial : Nat) (a_o_reader : Nat) (a_o_tapes : Nat) (a_o_triangle_halves : Nat) (a_o_now_marks : Nat) (a_o_now_seen : Nat) (a_o_now_events : Nat) (a_o_now_book : Nat) (a_o_now_marks_numbers : Nat) (a_o_now_seen_numbers : Nat) (a_o_now_events_numbers : Nat) (a_o_now_book_numbers : Nat) (a_o_trial_marks : Nat) (a_o_trial_seen : Nat) (a_o_trial_events : Nat) (a_o_trial_book : Nat) (a_o_trial_marks_numbers : Nat) (a_o_trial_seen_numbers : Nat) (a_o_trial_events_numbers : Nat) (a_o_trial_book_numbers : Nat) (p0 : Int32) (o_hasImage : Int32) (o_triangle_halves : Nat → Int32) (o_now_p : Int32) (o_now_e : Int32) (o_now_modulus : Int32) (o_now_windowRow : Int32) (o_now_windowPlace : Int32) (o_now_marks_size : Int32) (o_now_marks_numbers : Nat → Int32) (o_now_seen_size : Int32) (o_now_seen_numbers : Nat → Int32) (o_now_events_size : Int32) (o_now_events_numbers : Nat → Int32) (o_now_book_size : Int32) (o_now_book_numbers : Nat → Int32) (o_trial_p : Int32) (o_trial_e : Int32) (o_trial_modulus : Int32) (o_trial_windowRow : Int32) (o_trial_windowPlace : Int32) (o_trial_marks_size : Int32) (o_trial_marks_numbers : Nat → Int32) (o_trial_seen_size : Int32) (o_trial_seen_numbers : Nat → Int32) (o_trial_events_size : Int32) (o_trial_events_numbers : Nat → Int32) (o_trial_book_size : Int32) (o_trial_book_numbers : Nat → Int32) (sz : Nat) (r : Int32 × (Nat → Int32) × Int32 × (Nat → Int32) × Int32 × (Nat → Int32) × Int32 × (Nat → Int32) × Int32 × Int32 × Int32 × Int32 × Int32 × Int32) (hr : f_X6_after p0 o_triangle_halves o_now_marks_numbers o_now_marks_size o_now_seen_numbers o_now_seen_size o_now_events_numbers o_now_events_size o_now_book_numbers o_now_book_size o_now_p o_now_e o_now_windowRow o_now_windowPlace o_trial_marks_numbers o_trial_marks_size o_trial_seen_numbers o_trial_seen_size o_trial_events_numbers o_trial_events_size o_trial_book_numbers o_trial_book_size o_trial_p o_trial_e o_trial_modulus o_trial_windowRow o_trial_windowPlace = some r) : Met l yX6_after wsX6_after rmX6_after (va_Pc [.ref a_o, .int p0] (pM (dC, dI) cI cJ [(a_o, .inr (5, [.ref a_o_triangle, .ref a_o_now, .ref a_o_kept, .ref a_o_trial, .ref a_o_reader, .ref a_o_tapes, .int o_hasImage])), (a_o_triangle, .inr (4, [.ref a_o_triangle_halves])), (a_o_triangle_halves, .inl (cI, 4160, .inl o_triangle_halves)), (a_o_now, .inr (2, [.ref a_o_triangle, .ref a_o_now_marks, .ref a_o_now_seen, .ref a_o_now_events, .ref a_o_now_book, .int o_now_p, .int o_now_e, .int o_now_modulus, .int o_now_windowRow, .int o_now_windowPlace])), (a_o_now_marks, .inr (0, [.ref a_o_now_marks_numbers, .int o_now_marks_size])), (a_o_now_marks_numbers, .inl (cI, 18, .inl o_now_marks_numbers)), (a_o_now_seen, .inr (0, [.ref a_o_now_seen_numbers, .int o_now_seen_size])), (a_o_now_seen_numbers, .inl (cI, 12, .inl o_now_seen_numbers)), (a_o_now_events, .inr (0, [.ref a_o_now_events_numbers, .int o_now_events_size])), (a_o_now_events_numbers, .inl (cI, 24, .inl o_now_events_numbers)), (a_o_now_book, .inr (0, [.ref a_o_now_book_numbers, .int o_now_book_size])), (a_o_now_book_numbers, .inl (cI, 24, .inl o_now_book_numbers)), (a_o_trial, .inr (2, [.ref a_o_triangle, .ref a_o_trial_marks, .ref a_o_trial_seen, .ref a_o_trial_events, .ref a_o_trial_book, .int o_trial_p, .int o_trial_e, .int o_trial_modulus, .int o_trial_windowRow, .int o_trial_windowPlace])), (a_o_trial_marks, .inr (0, [.ref a_o_trial_marks_numbers, .int o_trial_marks_size])), (a_o_trial_marks_numbers, .inl (cI, 18, .inl o_trial_marks_numbers)), (a_o_trial_seen, .inr (0, [.ref a_o_trial_seen_numbers, .int o_trial_seen_size])), (a_o_trial_seen_numbers, .inl (cI, 12, .inl o_trial_seen_numbers)), (a_o_trial_events, .inr (0, [.ref a_o_trial_events_numbers, .int o_trial_events_size])), (a_o_trial_events_numbers, .inl (cI, 24, .inl o_trial_events_numbers)), (a_o_trial_book, .inr (0, [.ref a_o_trial_book_numbers, .int o_trial_book_size])), (a_o_trial_book_numbers, .inl (cI, 24, .inl o_trial_book_numbers))] sz)) (qM (some (.int r.1)) (dC, dI) [(a_o, .inr (5, [.ref a_o_triangle, .ref a_o_now, .ref a_o_kept, .ref a_o_trial, .ref a_o_reader, .ref a_o_tapes, .int o_hasImage])), (a_o_triangle, .inr (4, [.ref a_o_triangle_halves])), (a_o_triangle_halves, .inl (cI, 4160, .inl o_triangle_halves)), (a_o_now, .inr (2, [.ref a_o_triangle, .ref a_o_now_marks, .ref a_o_now_seen, .ref a_o_now_events, .ref a_o_now_book, .int o_now_p, .int o_now_e, .int o_now_modulus, .int o_now_windowRow, .int o_now_windowPlace])), (a_o_now_marks, .inr (0, [.ref a_o_now_marks_numbers, .int o_now_marks_size])), (a_o_now_marks_numbers, .inl (cI, 18, .inl o_now_marks_numbers)), (a_o_now_seen, .inr (0, [.ref a_o_now_seen_numbers, .int o_now_seen_size])), (a_o_now_seen_numbers, .inl (cI, 12, .inl o_now_seen_numbers)), (a_o_now_events, .inr (0, [.ref a_o_now_events_numbers, .int o_now_events_size])), (a_o_now_events_numbers, .inl (cI, 24, .inl o_now_events_numbers)), (a_o_now_book, .inr (0, [.ref a_o_now_book_numbers, .int o_now_book_size])), (a_o_now_book_numbers, .inl (cI, 24, .inl o_now_book_numbers)), (a_o_trial, .inr (2, [.ref a_o_triangle, .ref a_o_trial_marks, .ref a_o_trial_seen, .ref a_o_trial_events, .ref a_o_trial_book, .int r.2.2.2.2.2.2.2.2.2.1, .int r.2.2.2.2.2.2.2.2.2.2.1, .int r.2.2.2.2.2.2.2.2.2.2.2.1, .int r.2.2.2.2.2.2.2.2.2.2.2.2.1, .int r.2.2.2.2.2.2.2.2.2.2.2.2.2])), (a_o_trial_marks, .inr (0, [.ref a_o_trial_marks_numbers, .int r.2.2.1])), (a_o_trial_marks_numbers, .inl (cI, 18, .inl r.2.1)), (a_o_trial_seen, .inr (0, [.ref a_o_trial_seen_numbers, .int r.2.2.2.2.1])), (a_o_trial_seen_numbers, .inl (cI, 12, .inl r.2.2.2.1)), (a_o_trial_events, .inr (0, [.ref a_o_trial_events_numbers, .int r.2.2.2.2.2.2.1])), (a_o_trial_events_numbers, .inl (cI, 24, .inl r.2.2.2.2.2.1)), (a_o_trial_book, .inr (0, [.ref a_o_trial_book_numbers, .int r.2.2.2.2.2.2.2.2.1])), (a_o_trial_book_numbers, .inl (cI, 24, .inl r.2.2.2.2.2.2.2.1))] (va_A [(a_o, .inr (5, [.ref a_o_triangle, .ref a_o_now, .ref a_o_kept, .ref a_o_trial, .ref a_o_reader, .ref a_o_tapes, .int o_hasImage])), (a_o_triangle, .inr (4, [.ref a_o_triangle_halves])), (a_o_triangle_halves, .inl (cI, 4160, .inl o_triangle_halves)), (a_o_now, .inr (2, [.ref a_o_triangle, .ref a_o_now_marks, .ref a_o_now_seen, .ref a_o_now_events, .ref a_o_now_book, .int o_now_p, .int o_now_e, .int o_now_modulus, .int o_now_windowRow, .int o_now_windowPlace])), (a_o_now_marks, .inr (0, [.ref a_o_now_marks_numbers, .int o_now_marks_size])), (a_o_now_marks_numbers, .inl (cI, 18, .inl o_now_marks_numbers)), (a_o_now_seen, .inr (0, [.ref a_o_now_seen_numbers, .int o_now_seen_size])), (a_o_now_seen_numbers, .inl (cI, 12, .inl o_now_seen_numbers)), (a_o_now_events, .inr (0, [.ref a_o_now_events_numbers, .int o_now_events_size])), (a_o_now_events_numbers, .inl (cI, 24, .inl o_now_events_numbers)), (a_o_now_book, .inr (0, [.ref a_o_now_book_numbers, .int o_now_book_size])), (a_o_now_book_numbers, .inl (cI, 24, .inl o_now_book_numbers)), (a_o_trial, .inr (2, [.ref a_o_triangle, .ref a_o_trial_marks, .ref a_o_trial_seen, .ref a_o_trial_events, .ref a_o_trial_book, .int o_trial_p, .int o_trial_e, .int o_trial_modulus, .int o_trial_windowRow, .int o_trial_windowPlace])), (a_o_trial_marks, .inr (0, [.ref a_o_trial_marks_numbers, .int o_trial_marks_size])), (a_o_trial_marks_numbers, .inl (cI, 18, .inl o_trial_marks_numbers)), (a_o_trial_seen, .inr (0, [.ref a_o_trial_seen_numbers, .int o_trial_seen_size])), (a_o_trial_seen_numbers, .inl (cI, 12, .inl o_trial_seen_numbers)), (a_o_trial_events, .inr (0, [.ref a_o_trial_events_numbers, .int o_trial_events_size])), (a_o_trial_events_numbers, .inl (cI, 24, .inl o_trial_events_numbers)), (a_o_trial_book, .inr (0, [.ref a_o_trial_book_numbers, .int o_trial_book_size])), (a_o_trial_book_numbers, .inl (cI, 24, .inl o_trial_book_numbers))] sz)) 0 0 (va_A [(a_o, .inr (5, [.ref a_o_triangle, .ref a_o_now, .ref a_o_kept, .ref a_o_trial, .ref a_o_reader, .ref a_o_tapes, .int o_hasImage])), (a_o_triangle, .inr (4, [.ref a_o_triangle_halves])), (a_o_triangle_halves, .inl (cI, 4160, .inl o_triangle_halves)), (a_o_now, .inr (2, [.ref a_o_triangle, .ref a_o_now_marks, .ref a_o_now_seen, .ref a_o_now_events, .ref a_o_now_book, .int o_now_p, .int o_now_e, .int o_now_modulus, .int o_now_windowRow, .int o_now_windowPlace])), (a_o_now_marks, .inr (0, [.ref a_o_now_marks_numbers, .int o_now_marks_size])), (a_o_now_marks_numbers, .inl (cI, 18, .inl o_now_marks_numbers)), (a_o_now_seen, .inr (0, [.ref a_o_now_seen_numbers, .int o_now_seen_size])), (a_o_now_seen_numbers, .inl (cI, 12, .inl o_now_seen_numbers)), (a_o_now_events, .inr (0, [.ref a_o_now_events_numbers, .int o_now_events_size])), (a_o_now_events_numbers, .inl (cI, 24, .inl o_now_events_numbers)), (a_o_now_book, .inr (0, [.ref a_o_now_book_numbers, .int o_now_book_size])), (a_o_now_book_numbers, .inl (cI, 24, .inl o_now_book_numbers)), (a_o_trial, .inr (2, [.ref a_o_triangle, .ref a_o_trial_marks, .ref a_o_trial_seen, .ref a_o_trial_events, .ref a_o_trial_book, .int o_trial_p, .int o_trial_e, .int o_trial_modulus, .int o_trial_windowRow, .int o_trial_windowPlace])), (a_o_trial_marks, .inr (0, [.ref a_o_trial_marks_numbers, .int o_trial_marks_size])), (a_o_trial_marks_numbers, .inl (cI, 18, .inl o_trial_marks_numbers)), (a_o_trial_seen, .inr (0, [.ref a_o_trial_seen_numbers, .int o_trial_seen_size])), (a_o_trial_seen_numbers, .inl (cI, 12, .inl o_trial_seen_numbers)), (a_o_trial_events, .inr (0, [.ref a_o_trial_events_numbers, .int o_trial_events_size])), (a_o_trial_events_numbers, .inl (cI, 24, .inl o_trial_events_numbers)), (a_o_trial_book, .inr (0, [.ref a_o_trial_book_numbers, .int o_trial_book_size])), (a_o_trial_book_numbers, .inl (cI, 24, .inl o_trial_book_numbers))] sz) := by
  refine mu_of (cc := cX6_after) (maxL := 3) (by decide) rfl (Nat.le_of_ble_eq_true rfl) ?_
  intro p e s m args below meth c Q ls A hx hb hml hown hts hE hP hD hA hrt hlocks hret hl
  have hK := hE.1
  have hS : va_S A s.heap s.heap [] := va_S.rf
  have hl : lv_has ls 3 [(0, .ref a_o), (1, .int p0)] := hl
  unfold f_X6_after at hr
  obtain ⟨H, hHe⟩ : ∃ H, H = s.heap := ⟨_, rfl⟩
  obtain ⟨locs, hLe⟩ : ∃ locs : List Loc, locs = [] := ⟨_, rfl⟩
  suffices hgo : va_P (dC, dI) vwCl [(a_o, .inr (5, [.ref a_o_triangle, .ref a_o_now, .ref a_o_kept, .ref a_o_trial, .ref a_o_reader, .ref a_o_tapes, .int o_hasImage])), (a_o_triangle, .inr (4, [.ref a_o_triangle_halves])), (a_o_triangle_halves, .inl (cI, 4160, .inl o_triangle_halves)), (a_o_now, .inr (2, [.ref a_o_triangle, .ref a_o_now_marks, .ref a_o_now_seen, .ref a_o_now_events, .ref a_o_now_book, .int o_now_p, .int o_now_e, .int o_now_modulus, .int o_now_windowRow, .int o_now_windowPlace])), (a_o_now_marks, .inr (0, [.ref a_o_now_marks_numbers, .int o_now_marks_size])), (a_o_now_marks_numbers, .inl (cI, 18, .inl o_now_marks_numbers)), (a_o_now_seen, .inr (0, [.ref a_o_now_seen_numbers, .int o_now_seen_size])), (a_o_now_seen_numbers, .inl (cI, 12, .inl o_now_seen_numbers)), (a_o_now_events, .inr (0, [.ref a_o_now_events_numbers, .int o_now_events_size])), (a_o_now_events_numbers, .inl (cI, 24, .inl o_now_events_numbers)), (a_o_now_book, .inr (0, [.ref a_o_now_book_numbers, .int o_now_book_size])), (a_o_now_book_numbers, .inl (cI, 24, .inl o_now_book_numbers)), (a_o_trial, .inr (2, [.ref a_o_triangle, .ref a_o_trial_marks, .ref a_o_trial_seen, .ref a_o_trial_events, .ref a_o_trial_book, .int o_trial_p, .int o_trial_e, .int o_trial_modulus, .int o_trial_windowRow, .int o_trial_windowPlace])), (a_o_trial_marks, .inr (0, [.ref a_o_trial_marks_numbers, .int o_trial_marks_size])), (a_o_trial_marks_numbers, .inl (cI, 18, .inl o_trial_marks_numbers)), (a_o_trial_seen, .inr (0, [.ref a_o_trial_seen_numbers, .int o_trial_seen_size])), (a_o_trial_seen_numbers, .inl (cI, 12, .inl o_trial_seen_numbers)), (a_o_trial_events, .inr (0, [.ref a_o_trial_events_numbers, .int o_trial_events_size])), (a_o_trial_events_numbers, .inl (cI, 24, .inl o_trial_events_numbers)), (a_o_trial_book, .inr (0, [.ref a_o_trial_book_numbers, .int o_trial_book_size])), (a_o_trial_book_numbers, .inl (cI, 24, .inl o_trial_book_numbers))] H → va_S A s.heap H locs → W p l e rmX6_after s m args below meth c H locs 0 0 Q (F0 m 0 ls []) by
    subst hHe; subst hLe; exact hgo hP hS
  clear hP hS hHe hLe
  intro hP hS
  have iX1 : ∀ w ∈ wsX10, w ∈ wsX6_after := memr_ (big := wsX6_after) wsX10 [130, 131] (by decide +kernel)
  have iX3 : ∀ w ∈ wsX30, w ∈ wsX6_after := memr_ (big := wsX6_after) wsX30 [120, 121, 122, 123, 124, 125, 126, 127, 128, 129] (by decide +kernel)
  have iX5 : ∀ w ∈ wsX50, w ∈ wsX6_after := memr_ (big := wsX6_after) wsX50 [132] (by decide +kernel)
  have iX6 : ∀ w ∈ wsX60, w ∈ wsX6_after := memr_ (big := wsX6_after) wsX60 [113, 114, 115, 116, 117, 118, 119] (by decide +kernel)
  refine lv_iload_n hx hb dX6_after_0 rfl (lv_at hl 1 rfl) ?_
  refine lv_iconst (v := (0 : Int32)) hx hb dX6_after_1 (by decide) ?_
  refine lv_iconst (v := (2 : Int32)) hx hb dX6_after_2 (by decide) ?_
  refine ro_S ⟨hx, hb, hml, hown, hts⟩ (k_X6_isWithin l dC dI cI cJ p0 (0 : Int32) (2 : Int32)) (va_cwS 3 hts gX6_after_X6_isWithin rfl rfl rfl (by decide +kernel) ⟨Nat.le_of_ble_eq_true rfl, Nat.le_of_ble_eq_true rfl⟩) hE (hP.sub [] rfl) rfl hl.1 rfl (Nat.le_of_ble_eq_true rfl) dX6_after_3 ⟨Nat.zero_le _, Nat.zero_le _⟩ ?_
  refine lv_if_ne (tgt := 11) hx hb dX6_after_6 (by decide) (fun c_1 => ?_) (fun c_1 => ?_)
  · have hr := ite_n hr c_1
    refine lv_aload_n hx hb dX6_after_11 rfl (lv_at hl 0 rfl) ?_
    refine va_get (D := (dC, dI)) (ci := 5) (v := .ref a_o_trial) (C := RX6) (T := TX6) (N := 7) hx hb hts iX6 hown hK hP 0 rfl rfl 3 (by decide) (hts (.fieldLink RX6 30 "PascalRows" "trial" "LPascalRows$Setup;") (List.mem_of_getElem? (i := 1) rfl)) (fun _ h9 => h9) rfl dX6_after_12 ?_
    refine lv_aload_n hx hb dX6_after_15 rfl (lv_at hl 0 rfl) ?_
    refine va_get (D := (dC, dI)) (ci := 5) (v := .ref a_o_now) (C := RX6) (T := TX6) (N := 7) hx hb hts iX6 hown hK hP 0 rfl rfl 1 (by decide) (hts (.fieldLink RX6 23 "PascalRows" "now" "LPascalRows$Setup;") (List.mem_of_getElem? (i := 2) rfl)) (fun _ h9 => h9) rfl dX6_after_16 ?_
    obtain ⟨u_2, hu_2, hr⟩ := bd_e hr
    refine mu_V ⟨hx, hb, hml, hown, hts⟩ (k_X3_copyFrom l dC dI cI cJ a_o_trial a_o_triangle a_o_trial_marks a_o_trial_seen a_o_trial_events a_o_trial_book a_o_trial_marks_numbers a_o_trial_seen_numbers a_o_trial_events_numbers a_o_trial_book_numbers a_o_now a_o_triangle a_o_now_marks a_o_now_seen a_o_now_events a_o_now_book a_o_now_marks_numbers a_o_now_seen_numbers a_o_now_events_numbers a_o_now_book_numbers o_trial_p o_trial_e o_trial_modulus o_trial_windowRow o_trial_windowPlace o_trial_marks_size o_trial_marks_numbers o_trial_seen_size o_trial_seen_numbers o_trial_events_size o_trial_events_numbers o_trial_book_size o_trial_book_numbers o_now_p o_now_e o_now_modulus o_now_windowRow o_now_windowPlace o_now_marks_size o_now_marks_numbers o_now_seen_size o_now_seen_numbers o_now_events_size o_now_events_numbers o_now_book_size o_now_book_numbers H.size u_2 hu_2) (cwV 1 hts gX6_after_X3_copyFrom rfl rfl rfl (by decide +kernel) ⟨Nat.le_of_ble_eq_true rfl, Nat.le_of_ble_eq_true rfl⟩) hE 12 rfl rfl rfl rfl hl.1 rfl (Nat.le_of_ble_eq_true rfl) dX6_after_19 ⟨Nat.zero_le _, Nat.zero_le _⟩ hP (hD.fst rfl) hS hA [12, 13, 14, 15, 16, 17, 18, 19, 20, 3, 4, 5, 6, 7, 8, 9, 10, 11] [0, 1, 2] [0, 1, 2, 12, 13, 14, 15, 16, 17, 18, 19, 20, 3, 4, 5, 6, 7, 8, 9, 10, 11] rfl rfl (by decide) (by decide) rfl (by decide) (W1 := [(a_o, .inr (5, [.ref a_o_triangle, .ref a_o_now, .ref a_o_kept, .ref a_o_trial, .ref a_o_reader, .ref a_o_tapes, .int o_hasImage])), (a_o_triangle, .inr (4, [.ref a_o_triangle_halves])), (a_o_triangle_halves, .inl (cI, 4160, .inl o_triangle_halves)), (a_o_now, .inr (2, [.ref a_o_triangle, .ref a_o_now_marks, .ref a_o_now_seen, .ref a_o_now_events, .ref a_o_now_book, .int o_now_p, .int o_now_e, .int o_now_modulus, .int o_now_windowRow, .int o_now_windowPlace])), (a_o_now_marks, .inr (0, [.ref a_o_now_marks_numbers, .int o_now_marks_size])), (a_o_now_marks_numbers, .inl (cI, 18, .inl o_now_marks_numbers)), (a_o_now_seen, .inr (0, [.ref a_o_now_seen_numbers, .int o_now_seen_size])), (a_o_now_seen_numbers, .inl (cI, 12, .inl o_now_seen_numbers)), (a_o_now_events, .inr (0, [.ref a_o_now_events_numbers, .int o_now_events_size])), (a_o_now_events_numbers, .inl (cI, 24, .inl o_now_events_numbers)), (a_o_now_book, .inr (0, [.ref a_o_now_book_numbers, .int o_now_book_size])), (a_o_now_book_numbers, .inl (cI, 24, .inl o_now_book_numbers)), (a_o_trial, .inr (2, [.ref a_o_triangle, .ref a_o_trial_marks, .ref a_o_trial_seen, .ref a_o_trial_events, .ref a_o_trial_book, .int u_2.2.2.2.2.2.2.2.2.1, .int u_2.2.2.2.2.2.2.2.2.2.1, .int u_2.2.2.2.2.2.2.2.2.2.2.1, .int u_2.2.2.2.2.2.2.2.2.2.2.2.1, .int u_2.2.2.2.2.2.2.2.2.2.2.2.2])), (a_o_trial_marks, .inr (0, [.ref a_o_trial_marks_numbers, .int u_2.2.1])), (a_o_trial_marks_numbers, .inl (cI, 18, .inl u_2.1)), (a_o_trial_seen, .inr (0, [.ref a_o_trial_seen_numbers, .int u_2.2.2.2.1])), (a_o_trial_seen_numbers, .inl (cI, 12, .inl u_2.2.2.1)), (a_o_trial_events, .inr (0, [.ref a_o_trial_events_numbers, .int u_2.2.2.2.2.2.1])), (a_o_trial_events_numbers, .inl (cI, 24, .inl u_2.2.2.2.2.1)), (a_o_trial_book, .inr (0, [.ref a_o_trial_book_numbers, .int u_2.2.2.2.2.2.2.2.1])), (a_o_trial_book_numbers, .inl (cI, 24, .inl u_2.2.2.2.2.2.2.1))]) rfl (fun H locs hP hS => W.eq (g2 := F0 m 22 ls []) rfl ?_)
    refine lv_iconst (v := (0 : Int32)) hx hb dX6_after_22 (by decide) ?_
    refine lv_istore_n (lv' := [(2, .int (0 : Int32)), (0, .ref a_o), (1, .int p0)]) hx hb dX6_after_23 rfl hl (by decide) rfl (fun ls hl => ?_)
    have hL24 : ∀ (v1_24 : Int32) (o_trial_seen_numbers_24 : Nat → Int32) (o_trial_seen_size_24 : Int32) (o_trial_events_numbers_24 : Nat → Int32) (o_trial_events_size_24 : Int32) (o_trial_book_numbers_24 : Nat → Int32) (o_trial_book_size_24 : Int32) (o_trial_windowPlace_24 : Int32) (k_24 : (Nat → Int32) → (Int32) → (Int32) → (Int32) → (Int32) → (Int32) → Option (Int32 × (Nat → Int32) × Int32 × (Nat → Int32) × Int32 × (Nat → Int32) × Int32 × (Nat → Int32) × Int32 × Int32 × Int32 × Int32 × Int32 × Int32)) (hk : ∀ (xc_o_trial_marks_numbers_24 : Nat → Int32) (xc_o_trial_marks_size_24 : Int32) (xc_o_trial_p_24 : Int32) (xc_o_trial_e_24 : Int32) (xc_o_trial_modulus_24 : Int32) (xc_o_trial_windowRow_24 : Int32) (ls : Array Slot), lv_has ls 3 [(0, .ref a_o), (1, .int v1_24)] → ∀ (H : Heap) (locs : List Loc), va_P (dC, dI) vwCl [(a_o, .inr (5, [.ref a_o_triangle, .ref a_o_now, .ref a_o_kept, .ref a_o_trial, .ref a_o_reader, .ref a_o_tapes, .int o_hasImage])), (a_o_triangle, .inr (4, [.ref a_o_triangle_halves])), (a_o_triangle_halves, .inl (cI, 4160, .inl o_triangle_halves)), (a_o_now, .inr (2, [.ref a_o_triangle, .ref a_o_now_marks, .ref a_o_now_seen, .ref a_o_now_events, .ref a_o_now_book, .int o_now_p, .int o_now_e, .int o_now_modulus, .int o_now_windowRow, .int o_now_windowPlace])), (a_o_now_marks, .inr (0, [.ref a_o_now_marks_numbers, .int o_now_marks_size])), (a_o_now_marks_numbers, .inl (cI, 18, .inl o_now_marks_numbers)), (a_o_now_seen, .inr (0, [.ref a_o_now_seen_numbers, .int o_now_seen_size])), (a_o_now_seen_numbers, .inl (cI, 12, .inl o_now_seen_numbers)), (a_o_now_events, .inr (0, [.ref a_o_now_events_numbers, .int o_now_events_size])), (a_o_now_events_numbers, .inl (cI, 24, .inl o_now_events_numbers)), (a_o_now_book, .inr (0, [.ref a_o_now_book_numbers, .int o_now_book_size])), (a_o_now_book_numbers, .inl (cI, 24, .inl o_now_book_numbers)), (a_o_trial, .inr (2, [.ref a_o_triangle, .ref a_o_trial_marks, .ref a_o_trial_seen, .ref a_o_trial_events, .ref a_o_trial_book, .int xc_o_trial_p_24, .int xc_o_trial_e_24, .int xc_o_trial_modulus_24, .int xc_o_trial_windowRow_24, .int o_trial_windowPlace_24])), (a_o_trial_marks, .inr (0, [.ref a_o_trial_marks_numbers, .int xc_o_trial_marks_size_24])), (a_o_trial_marks_numbers, .inl (cI, 18, .inl xc_o_trial_marks_numbers_24)), (a_o_trial_seen, .inr (0, [.ref a_o_trial_seen_numbers, .int o_trial_seen_size_24])), (a_o_trial_seen_numbers, .inl (cI, 12, .inl o_trial_seen_numbers_24)), (a_o_trial_events, .inr (0, [.ref a_o_trial_events_numbers, .int o_trial_events_size_24])), (a_o_trial_events_numbers, .inl (cI, 24, .inl o_trial_events_numbers_24)), (a_o_trial_book, .inr (0, [.ref a_o_trial_book_numbers, .int o_trial_book_size_24])), (a_o_trial_book_numbers, .inl (cI, 24, .inl o_trial_book_numbers_24))] H → va_S A s.heap H locs →  k_24 xc_o_trial_marks_numbers_24 xc_o_trial_marks_size_24 xc_o_trial_p_24 xc_o_trial_e_24 xc_o_trial_modulus_24 xc_o_trial_windowRow_24 = some r → W p l e rmX6_after s m args below meth c H locs 0 0 Q (F0 m 75 ls [])) (fuel : Nat) (v2_24 : Int32) (o_trial_marks_numbers_24 : Nat → Int32) (o_trial_marks_size_24 : Int32) (o_trial_p_24 : Int32) (o_trial_e_24 : Int32) (o_trial_modulus_24 : Int32) (o_trial_windowRow_24 : Int32) (ls : Array Slot), lv_has ls 3 [(0, .ref a_o), (1, .int v1_24), (2, .int v2_24)] → ∀ (H : Heap) (locs : List Loc), va_P (dC, dI) vwCl [(a_o, .inr (5, [.ref a_o_triangle, .ref a_o_now, .ref a_o_kept, .ref a_o_trial, .ref a_o_reader, .ref a_o_tapes, .int o_hasImage])), (a_o_triangle, .inr (4, [.ref a_o_triangle_halves])), (a_o_triangle_halves, .inl (cI, 4160, .inl o_triangle_halves)), (a_o_now, .inr (2, [.ref a_o_triangle, .ref a_o_now_marks, .ref a_o_now_seen, .ref a_o_now_events, .ref a_o_now_book, .int o_now_p, .int o_now_e, .int o_now_modulus, .int o_now_windowRow, .int o_now_windowPlace])), (a_o_now_marks, .inr (0, [.ref a_o_now_marks_numbers, .int o_now_marks_size])), (a_o_now_marks_numbers, .inl (cI, 18, .inl o_now_marks_numbers)), (a_o_now_seen, .inr (0, [.ref a_o_now_seen_numbers, .int o_now_seen_size])), (a_o_now_seen_numbers, .inl (cI, 12, .inl o_now_seen_numbers)), (a_o_now_events, .inr (0, [.ref a_o_now_events_numbers, .int o_now_events_size])), (a_o_now_events_numbers, .inl (cI, 24, .inl o_now_events_numbers)), (a_o_now_book, .inr (0, [.ref a_o_now_book_numbers, .int o_now_book_size])), (a_o_now_book_numbers, .inl (cI, 24, .inl o_now_book_numbers)), (a_o_trial, .inr (2, [.ref a_o_triangle, .ref a_o_trial_marks, .ref a_o_trial_seen, .ref a_o_trial_events, .ref a_o_trial_book, .int o_trial_p_24, .int o_trial_e_24, .int o_trial_modulus_24, .int o_trial_windowRow_24, .int o_trial_windowPlace_24])), (a_o_trial_marks, .inr (0, [.ref a_o_trial_marks_numbers, .int o_trial_marks_size_24])), (a_o_trial_marks_numbers, .inl (cI, 18, .inl o_trial_marks_numbers_24)), (a_o_trial_seen, .inr (0, [.ref a_o_trial_seen_numbers, .int o_trial_seen_size_24])), (a_o_trial_seen_numbers, .inl (cI, 12, .inl o_trial_seen_numbers_24)), (a_o_trial_events, .inr (0, [.ref a_o_trial_events_numbers, .int o_trial_events_size_24])), (a_o_trial_events_numbers, .inl (cI, 24, .inl o_trial_events_numbers_24)), (a_o_trial_book, .inr (0, [.ref a_o_trial_book_numbers, .int o_trial_book_size_24])), (a_o_trial_book_numbers, .inl (cI, 24, .inl o_trial_book_numbers_24))] H → va_S A s.heap H locs → f_X6_after_L24 k_24 o_now_events_numbers o_now_events_size fuel v2_24 o_trial_marks_numbers_24 o_trial_marks_size_24 o_trial_p_24 o_trial_e_24 o_trial_modulus_24 o_trial_windowRow_24 = some r → W p l e rmX6_after s m args below meth c H locs 0 0 Q (F0 m 24 ls []) := by
      intro v1_24 o_trial_seen_numbers_24 o_trial_seen_size_24 o_trial_events_numbers_24 o_trial_events_size_24 o_trial_book_numbers_24 o_trial_book_size_24 o_trial_windowPlace_24 k_24 hk fuel
      induction fuel with
      | zero =>
        intro v2_24 o_trial_marks_numbers_24 o_trial_marks_size_24 o_trial_p_24 o_trial_e_24 o_trial_modulus_24 o_trial_windowRow_24 ls hl H locs hP hS hr
        rw [f_X6_after_L24_z] at hr
        cases hr
      | succ fuel ih =>
        intro v2_24 o_trial_marks_numbers_24 o_trial_marks_size_24 o_trial_p_24 o_trial_e_24 o_trial_modulus_24 o_trial_windowRow_24 ls hl H locs hP hS hr
        rw [f_X6_after_L24_s] at hr
        refine lv_iload_n hx hb dX6_after_24 rfl (lv_at hl 2 rfl) ?_
        refine lv_aload_n hx hb dX6_after_25 rfl (lv_at hl 0 rfl) ?_
        refine va_get (D := (dC, dI)) (ci := 5) (v := .ref a_o_now) (C := RX6) (T := TX6) (N := 7) hx hb hts iX6 hown hK hP 0 rfl rfl 1 (by decide) (hts (.fieldLink RX6 23 "PascalRows" "now" "LPascalRows$Setup;") (List.mem_of_getElem? (i := 2) rfl)) (fun _ h9 => h9) rfl dX6_after_26 ?_
        refine va_getN (host := "PascalRows") (D := (dC, dI)) (ci := 2) (v := .ref a_o_now_events) (C := RX3) (T := TX3) (N := 10) hx hb hts iX3 hown hK hP 3 rfl rfl 3 (by decide) (hE.nest 2 rfl rfl) (fun _ h9 => h9) rfl dX6_after_29 ?_
        refine va_getN (host := "PascalRows") (D := (dC, dI)) (ci := 0) (v := .int o_now_events_size) (C := RX1) (T := TX1) (N := 2) hx hb hts iX1 hown hK hP 8 rfl rfl 1 (by decide) (hE.nest 8 rfl rfl) (fun _ h9 => h9) rfl dX6_after_32 ?_
        refine lv_icmp_ge (tgt := 75) hx hb dX6_after_35 (by decide) (fun c_3 => ?_) (fun c_3 => ?_)
        · have hr := ite_p hr c_3
          exact hk o_trial_marks_numbers_24 o_trial_marks_size_24 o_trial_p_24 o_trial_e_24 o_trial_modulus_24 o_trial_windowRow_24 ls (lv_sub hl [0, 1] rfl) H locs hP hS hr
        · have hr := ite_n hr c_3
          refine lv_aload_n hx hb dX6_after_38 rfl (lv_at hl 0 rfl) ?_
          refine va_get (D := (dC, dI)) (ci := 5) (v := .ref a_o_trial) (C := RX6) (T := TX6) (N := 7) hx hb hts iX6 hown hK hP 0 rfl rfl 3 (by decide) (hts (.fieldLink RX6 30 "PascalRows" "trial" "LPascalRows$Setup;") (List.mem_of_getElem? (i := 1) rfl)) (fun _ h9 => h9) rfl dX6_after_39 ?_
          refine lv_aload_n hx hb dX6_after_42 rfl (lv_at hl 0 rfl) ?_
          refine va_get (D := (dC, dI)) (ci := 5) (v := .ref a_o_now) (C := RX6) (T := TX6) (N := 7) hx hb hts iX6 hown hK hP 0 rfl rfl 1 (by decide) (hts (.fieldLink RX6 23 "PascalRows" "now" "LPascalRows$Setup;") (List.mem_of_getElem? (i := 2) rfl)) (fun _ h9 => h9) rfl dX6_after_43 ?_
          refine va_getN (host := "PascalRows") (D := (dC, dI)) (ci := 2) (v := .ref a_o_now_events) (C := RX3) (T := TX3) (N := 10) hx hb hts iX3 hown hK hP 3 rfl rfl 3 (by decide) (hE.nest 2 rfl rfl) (fun _ h9 => h9) rfl dX6_after_46 ?_
          refine lv_iload_n hx hb dX6_after_49 rfl (lv_at hl 2 rfl) ?_
          refine lv_iconst (v := (0 : Int32)) hx hb dX6_after_50 (by decide) ?_
          obtain ⟨u_4, hu_4, hr⟩ := bd_e hr
          refine ro_V ⟨hx, hb, hml, hown, hts⟩ (k_X1_number l dC dI cI cJ a_o_now_events a_o_now_events_numbers v2_24 (0 : Int32) 24 o_now_events_size o_now_events_numbers u_4 hu_4) (cwV 2 hts gX6_after_X1_number rfl rfl rfl (by decide +kernel) ⟨Nat.le_of_ble_eq_true rfl, Nat.le_of_ble_eq_true rfl⟩) hE hP 8 rfl rfl rfl (hP.sub [8, 9] rfl) rfl hl.1 rfl (Nat.le_of_ble_eq_true rfl) dX6_after_51 ⟨Nat.zero_le _, Nat.zero_le _⟩ ?_
          refine lv_aload_n hx hb dX6_after_54 rfl (lv_at hl 0 rfl) ?_
          refine va_get (D := (dC, dI)) (ci := 5) (v := .ref a_o_now) (C := RX6) (T := TX6) (N := 7) hx hb hts iX6 hown hK hP 0 rfl rfl 1 (by decide) (hts (.fieldLink RX6 23 "PascalRows" "now" "LPascalRows$Setup;") (List.mem_of_getElem? (i := 2) rfl)) (fun _ h9 => h9) rfl dX6_after_55 ?_
          refine va_getN (host := "PascalRows") (D := (dC, dI)) (ci := 2) (v := .ref a_o_now_events) (C := RX3) (T := TX3) (N := 10) hx hb hts iX3 hown hK hP 3 rfl rfl 3 (by decide) (hE.nest 2 rfl rfl) (fun _ h9 => h9) rfl dX6_after_58 ?_
          refine lv_iload_n hx hb dX6_after_61 rfl (lv_at hl 2 rfl) ?_
          refine lv_iconst (v := (1 : Int32)) hx hb dX6_after_62 (by decide) ?_
          obtain ⟨u_5, hu_5, hr⟩ := bd_e hr
          refine ro_V ⟨hx, hb, hml, hown, hts⟩ (k_X1_number l dC dI cI cJ a_o_now_events a_o_now_events_numbers v2_24 (1 : Int32) 24 o_now_events_size o_now_events_numbers u_5 hu_5) (cwV 2 hts gX6_after_X1_number rfl rfl rfl (by decide +kernel) ⟨Nat.le_of_ble_eq_true rfl, Nat.le_of_ble_eq_true rfl⟩) hE hP 8 rfl rfl rfl (hP.sub [8, 9] rfl) rfl hl.1 rfl (Nat.le_of_ble_eq_true rfl) dX6_after_63 ⟨Nat.zero_le _, Nat.zero_le _⟩ ?_
          obtain ⟨u_6, hu_6, hr⟩ := bd_e hr
          refine mu_V ⟨hx, hb, hml, hown, hts⟩ (k_X3_happen l dC dI cI cJ a_o_trial a_o_triangle a_o_trial_marks a_o_trial_seen a_o_trial_events a_o_trial_book a_o_trial_marks_numbers u_4 u_5 o_trial_p_24 o_trial_e_24 o_trial_modulus_24 o_trial_windowRow_24 o_trial_windowPlace_24 o_trial_marks_size_24 o_trial_marks_numbers_24 H.size u_6 hu_6) (cwV 2 hts gX6_after_X3_happen rfl rfl rfl (by decide +kernel) ⟨Nat.le_of_ble_eq_true rfl, Nat.le_of_ble_eq_true rfl⟩) hE 12 rfl rfl rfl rfl hl.1 rfl (Nat.le_of_ble_eq_true rfl) dX6_after_66 ⟨Nat.zero_le _, Nat.zero_le _⟩ hP (hD.fst rfl) hS hA [12, 13, 14] [0, 1, 2, 3, 4, 5, 6, 7, 8, 9, 10, 11, 15, 16, 17, 18, 19, 20] [0, 1, 2, 3, 4, 5, 6, 7, 8, 9, 10, 11, 18, 19, 20, 12, 13, 14, 15, 16, 17] rfl rfl (by decide) (by decide) rfl (by decide) (W1 := [(a_o, .inr (5, [.ref a_o_triangle, .ref a_o_now, .ref a_o_kept, .ref a_o_trial, .ref a_o_reader, .ref a_o_tapes, .int o_hasImage])), (a_o_triangle, .inr (4, [.ref a_o_triangle_halves])), (a_o_triangle_halves, .inl (cI, 4160, .inl o_triangle_halves)), (a_o_now, .inr (2, [.ref a_o_triangle, .ref a_o_now_marks, .ref a_o_now_seen, .ref a_o_now_events, .ref a_o_now_book, .int o_now_p, .int o_now_e, .int o_now_modulus, .int o_now_windowRow, .int o_now_windowPlace])), (a_o_now_marks, .inr (0, [.ref a_o_now_marks_numbers, .int o_now_marks_size])), (a_o_now_marks_numbers, .inl (cI, 18, .inl o_now_marks_numbers)), (a_o_now_seen, .inr (0, [.ref a_o_now_seen_numbers, .int o_now_seen_size])), (a_o_now_seen_numbers, .inl (cI, 12, .inl o_now_seen_numbers)), (a_o_now_events, .inr (0, [.ref a_o_now_events_numbers, .int o_now_events_size])), (a_o_now_events_numbers, .inl (cI, 24, .inl o_now_events_numbers)), (a_o_now_book, .inr (0, [.ref a_o_now_book_numbers, .int o_now_book_size])), (a_o_now_book_numbers, .inl (cI, 24, .inl o_now_book_numbers)), (a_o_trial, .inr (2, [.ref a_o_triangle, .ref a_o_trial_marks, .ref a_o_trial_seen, .ref a_o_trial_events, .ref a_o_trial_book, .int u_6.2.2.1, .int u_6.2.2.2.1, .int u_6.2.2.2.2.1, .int u_6.2.2.2.2.2, .int o_trial_windowPlace_24])), (a_o_trial_marks, .inr (0, [.ref a_o_trial_marks_numbers, .int u_6.2.1])), (a_o_trial_marks_numbers, .inl (cI, 18, .inl u_6.1)), (a_o_trial_seen, .inr (0, [.ref a_o_trial_seen_numbers, .int o_trial_seen_size_24])), (a_o_trial_seen_numbers, .inl (cI, 12, .inl o_trial_seen_numbers_24)), (a_o_trial_events, .inr (0, [.ref a_o_trial_events_numbers, .int o_trial_events_size_24])), (a_o_trial_events_numbers, .inl (cI, 24, .inl o_trial_events_numbers_24)), (a_o_trial_book, .inr (0, [.ref a_o_trial_book_numbers, .int o_trial_book_size_24])), (a_o_trial_book_numbers, .inl (cI, 24, .inl o_trial_book_numbers_24))]) rfl (fun H locs hP hS => W.eq (g2 := F0 m 69 ls []) rfl ?_)
          refine lv_iinc (v := (v2_24 + (1 : Int32))) (lv' := [(2, .int (v2_24 + (1 : Int32))), (0, .ref a_o), (1, .int v1_24)]) hx hb dX6_after_69 hl (k := 2) rfl (congrArg (fun z => v2_24 + z) (by decide)) (by decide) rfl (fun ls hl => ?_)
          refine lv_goto (tgt := 24) hx hb dX6_after_72 (by decide) ?_
          exact ih (v2_24 + (1 : Int32)) u_6.1 u_6.2.1 u_6.2.2.1 u_6.2.2.2.1 u_6.2.2.2.2.1 u_6.2.2.2.2.2 ls (lv_sub hl [1, 2, 0] rfl) H locs hP hS hr
    refine hL24 p0 u_2.2.2.1 u_2.2.2.2.1 u_2.2.2.2.2.1 u_2.2.2.2.2.2.1 u_2.2.2.2.2.2.2.1 u_2.2.2.2.2.2.2.2.1 u_2.2.2.2.2.2.2.2.2.2.2.2.2 _ (fun xc_o_trial_marks_numbers_24 xc_o_trial_marks_size_24 xc_o_trial_p_24 xc_o_trial_e_24 xc_o_trial_modulus_24 xc_o_trial_windowRow_24 ls hl H locs hP hS hr => ?_) 5000 (0 : Int32) u_2.1 u_2.2.1 u_2.2.2.2.2.2.2.2.2.1 u_2.2.2.2.2.2.2.2.2.2.1 u_2.2.2.2.2.2.2.2.2.2.2.1 u_2.2.2.2.2.2.2.2.2.2.2.2.1 ls (lv_sub hl [1, 2, 0] rfl) H locs hP hS hr
    refine lv_iload_n hx hb dX6_after_75 rfl (lv_at hl 1 rfl) ?_
    refine lv_if_ne (tgt := 87) hx hb dX6_after_76 (by decide) (fun c_7 => ?_) (fun c_7 => ?_)
    · have hr := ite_n hr c_7
      refine lv_iload_n hx hb dX6_after_87 rfl (lv_at hl 1 rfl) ?_
      refine lv_iconst (v := (1 : Int32)) hx hb dX6_after_88 (by decide) ?_
      have hJ_8 : ∀ (y_9 : Int32) (ey_9 : y_9 = (if (¬ (p0 = (1 : Int32))) then xc_o_trial_marks_size_24 else xc_o_trial_modulus_24)) (ls : Array Slot), lv_has ls 3 [] → W p l e rmX6_after s m args below meth c H locs 0 0 Q (F0 m 112 ls [.int y_9]) := by
        intro y_9 ey_9 ls hl
        have hr := qn_e hr ey_9
        obtain rfl := Option.some.inj hr
        exact hret H locs _ hP hS (fun Qc free hq hf => W.iret hx hb hrt hq hf dX6_after_112 hlocks)
      refine lv_icmp_ne (tgt := 102) hx hb dX6_after_89 (by decide) (fun c_10 => ?_) (fun c_10 => ?_)
      · refine lv_aload_n hx hb dX6_after_102 rfl (lv_at hl 0 rfl) ?_
        refine va_get (D := (dC, dI)) (ci := 5) (v := .ref a_o_trial) (C := RX6) (T := TX6) (N := 7) hx hb hts iX6 hown hK hP 0 rfl rfl 3 (by decide) (hts (.fieldLink RX6 30 "PascalRows" "trial" "LPascalRows$Setup;") (List.mem_of_getElem? (i := 1) rfl)) (fun _ h9 => h9) rfl dX6_after_103 ?_
        refine va_getN (host := "PascalRows") (D := (dC, dI)) (ci := 2) (v := .ref a_o_trial_marks) (C := RX3) (T := TX3) (N := 10) hx hb hts iX3 hown hK hP 12 rfl rfl 1 (by decide) (hE.nest 7 rfl rfl) (fun _ h9 => h9) rfl dX6_after_106 ?_
        refine va_getN (host := "PascalRows") (D := (dC, dI)) (ci := 0) (v := .int xc_o_trial_marks_size_24) (C := RX1) (T := TX1) (N := 2) hx hb hts iX1 hown hK hP 13 rfl rfl 1 (by decide) (hE.nest 8 rfl rfl) (fun _ h9 => h9) rfl dX6_after_109 ?_
        exact hJ_8 _ (if_pos c_10).symm ls (lv_sub hl [] rfl)
      · refine lv_aload_n hx hb dX6_after_92 rfl (lv_at hl 0 rfl) ?_
        refine va_get (D := (dC, dI)) (ci := 5) (v := .ref a_o_trial) (C := RX6) (T := TX6) (N := 7) hx hb hts iX6 hown hK hP 0 rfl rfl 3 (by decide) (hts (.fieldLink RX6 30 "PascalRows" "trial" "LPascalRows$Setup;") (List.mem_of_getElem? (i := 1) rfl)) (fun _ h9 => h9) rfl dX6_after_93 ?_
        refine va_getN (host := "PascalRows") (D := (dC, dI)) (ci := 2) (v := .int xc_o_trial_modulus_24) (C := RX3) (T := TX3) (N := 10) hx hb hts iX3 hown hK hP 12 rfl rfl 7 (by decide) (hE.nest 0 rfl rfl) (fun _ h9 => h9) rfl dX6_after_96 ?_
        refine lv_goto (tgt := 112) hx hb dX6_after_99 (by decide) ?_
        exact hJ_8 _ (if_neg (fun h => h c_10)).symm ls (lv_sub hl [] rfl)
    · have hr := ite_p hr c_7
      refine lv_aload_n hx hb dX6_after_79 rfl (lv_at hl 0 rfl) ?_
      refine va_get (D := (dC, dI)) (ci := 5) (v := .ref a_o_trial) (C := RX6) (T := TX6) (N := 7) hx hb hts iX6 hown hK hP 0 rfl rfl 3 (by decide) (hts (.fieldLink RX6 30 "PascalRows" "trial" "LPascalRows$Setup;") (List.mem_of_getElem? (i := 1) rfl)) (fun _ h9 => h9) rfl dX6_after_80 ?_
      obtain ⟨u_11, hu_11, hr⟩ := bd_e hr
      refine ro_V ⟨hx, hb, hml, hown, hts⟩ (k_X3_markedInWindow l dC dI cI cJ a_o_trial a_o_triangle a_o_trial_marks a_o_trial_seen a_o_trial_events a_o_trial_book a_o_triangle_halves a_o_trial_marks_numbers xc_o_trial_p_24 xc_o_trial_e_24 xc_o_trial_modulus_24 xc_o_trial_windowRow_24 u_2.2.2.2.2.2.2.2.2.2.2.2.2 o_triangle_halves xc_o_trial_marks_size_24 xc_o_trial_marks_numbers_24 u_11 hu_11) (cwV 0 hts gX6_after_X3_markedInWindow rfl rfl rfl (by decide +kernel) ⟨Nat.le_of_ble_eq_true rfl, Nat.le_of_ble_eq_true rfl⟩) hE hP 12 rfl rfl rfl (hP.sub [12, 1, 2, 13, 14] rfl) rfl hl.1 rfl (Nat.le_of_ble_eq_true rfl) dX6_after_83 ⟨Nat.zero_le _, Nat.zero_le _⟩ ?_
      obtain rfl := Option.some.inj hr
      exact hret H locs _ hP hS (fun Qc free hq hf => W.iret hx hb hrt hq hf dX6_after_86 hlocks)
  · have hr := ite_p hr c_1
    refine lv_iconst (v := (-1 : Int32)) hx hb dX6_after_9 (by decide) ?_
    obtain rfl := Option.some.inj hr
    exact hret H locs _ hP hS (fun Qc free hq hf => W.iret hx hb hrt hq hf dX6_after_10 hlocks)
/-! X6_book -/
def rmX6_book : Room := { frames := 2, cells := 0, slots := 0, locals := 42 }
set_option maxHeartbeats 4000000 in
set_option maxRecDepth 100000 in
theorem k_X6_book (l : Launch) (dC : Nat → ClassId) (dI : Nat → Nat → Nat) (cI cJ : ClassId) (a_o : Nat) (a_o_triangle : Nat) (a_o_now : Nat) (a_o_kept : Nat) (a_o_trial : Nat) (a_o_reader : Nat) (a_o_tapes : Nat) (a_o_now_marks : Nat) (a_o_now_seen : Nat) (a_o_now_events : Nat) (a_o_now_book : Nat) (a_o_now_book_numbers : Nat) (p0 : Int32) (p1 : Int32) (o_hasImage : Int32) (o_now_p : Int32) (o_now_e : Int32) (o_now_modulus : Int32) (o_now_windowRow : Int32) (o_now_windowPlace : Int32) (o_now_book_size : Int32) (o_now_book_numbers : Nat → Int32) (sz : Nat) (r : Int32 × (Nat → Int32) × Int32) (hr : f_X6_book p0 p1 o_now_book_numbers o_now_book_size = some r) : Met l yX6_book wsX6_book rmX6_book (va_Pc [.ref a_o, .int p0, .int p1] (pM (dC, dI) cI cJ [(a_o, .inr (5, [.ref a_o_triangle, .ref a_o_now, .ref a_o_kept, .ref a_o_trial, .ref a_o_reader, .ref a_o_tapes, .int o_hasImage])), (a_o_now, .inr (2, [.ref a_o_triangle, .ref a_o_now_marks, .ref a_o_now_seen, .ref a_o_now_events, .ref a_o_now_book, .int o_now_p, .int o_now_e, .int o_now_modulus, .int o_now_windowRow, .int o_now_windowPlace])), (a_o_now_book, .inr (0, [.ref a_o_now_book_numbers, .int o_now_book_size])), (a_o_now_book_numbers, .inl (cI, 24, .inl o_now_book_numbers))] sz)) (qM (some (.int r.1)) (dC, dI) [(a_o, .inr (5, [.ref a_o_triangle, .ref a_o_now, .ref a_o_kept, .ref a_o_trial, .ref a_o_reader, .ref a_o_tapes, .int o_hasImage])), (a_o_now, .inr (2, [.ref a_o_triangle, .ref a_o_now_marks, .ref a_o_now_seen, .ref a_o_now_events, .ref a_o_now_book, .int o_now_p, .int o_now_e, .int o_now_modulus, .int o_now_windowRow, .int o_now_windowPlace])), (a_o_now_book, .inr (0, [.ref a_o_now_book_numbers, .int r.2.2])), (a_o_now_book_numbers, .inl (cI, 24, .inl r.2.1))] (va_A [(a_o, .inr (5, [.ref a_o_triangle, .ref a_o_now, .ref a_o_kept, .ref a_o_trial, .ref a_o_reader, .ref a_o_tapes, .int o_hasImage])), (a_o_now, .inr (2, [.ref a_o_triangle, .ref a_o_now_marks, .ref a_o_now_seen, .ref a_o_now_events, .ref a_o_now_book, .int o_now_p, .int o_now_e, .int o_now_modulus, .int o_now_windowRow, .int o_now_windowPlace])), (a_o_now_book, .inr (0, [.ref a_o_now_book_numbers, .int o_now_book_size])), (a_o_now_book_numbers, .inl (cI, 24, .inl o_now_book_numbers))] sz)) 0 0 (va_A [(a_o, .inr (5, [.ref a_o_triangle, .ref a_o_now, .ref a_o_kept, .ref a_o_trial, .ref a_o_reader, .ref a_o_tapes, .int o_hasImage])), (a_o_now, .inr (2, [.ref a_o_triangle, .ref a_o_now_marks, .ref a_o_now_seen, .ref a_o_now_events, .ref a_o_now_book, .int o_now_p, .int o_now_e, .int o_now_modulus, .int o_now_windowRow, .int o_now_windowPlace])), (a_o_now_book, .inr (0, [.ref a_o_now_book_numbers, .int o_now_book_size])), (a_o_now_book_numbers, .inl (cI, 24, .inl o_now_book_numbers))] sz) := by
  refine mu_of (cc := cX6_book) (maxL := 3) (by decide) rfl (Nat.le_of_ble_eq_true rfl) ?_
  intro p e s m args below meth c Q ls A hx hb hml hown hts hE hP hD hA hrt hlocks hret hl
  have hK := hE.1
  have hS : va_S A s.heap s.heap [] := va_S.rf
  have hl : lv_has ls 3 [(0, .ref a_o), (1, .int p0), (2, .int p1)] := hl
  unfold f_X6_book at hr
  obtain ⟨H, hHe⟩ : ∃ H, H = s.heap := ⟨_, rfl⟩
  obtain ⟨locs, hLe⟩ : ∃ locs : List Loc, locs = [] := ⟨_, rfl⟩
  suffices hgo : va_P (dC, dI) vwCl [(a_o, .inr (5, [.ref a_o_triangle, .ref a_o_now, .ref a_o_kept, .ref a_o_trial, .ref a_o_reader, .ref a_o_tapes, .int o_hasImage])), (a_o_now, .inr (2, [.ref a_o_triangle, .ref a_o_now_marks, .ref a_o_now_seen, .ref a_o_now_events, .ref a_o_now_book, .int o_now_p, .int o_now_e, .int o_now_modulus, .int o_now_windowRow, .int o_now_windowPlace])), (a_o_now_book, .inr (0, [.ref a_o_now_book_numbers, .int o_now_book_size])), (a_o_now_book_numbers, .inl (cI, 24, .inl o_now_book_numbers))] H → va_S A s.heap H locs → W p l e rmX6_book s m args below meth c H locs 0 0 Q (F0 m 0 ls []) by
    subst hHe; subst hLe; exact hgo hP hS
  clear hP hS hHe hLe
  intro hP hS
  have iX1 : ∀ w ∈ wsX10, w ∈ wsX6_book := memr_ (big := wsX6_book) wsX10 [37, 38] (by decide +kernel)
  have iX3 : ∀ w ∈ wsX30, w ∈ wsX6_book := memr_ (big := wsX6_book) wsX30 [27, 28, 29, 30, 31, 32, 33, 34, 35, 36] (by decide +kernel)
  have iX6 : ∀ w ∈ wsX60, w ∈ wsX6_book := memr_ (big := wsX6_book) wsX60 [20, 21, 22, 23, 24, 25, 26] (by decide +kernel)
  refine lv_iload_n hx hb dX6_book_0 rfl (lv_at hl 1 rfl) ?_
  refine lv_iconst (v := (-1 : Int32)) hx hb dX6_book_1 (by decide) ?_
  refine lv_icmp_ne (tgt := 17) hx hb dX6_book_2 (by decide) (fun c_1 => ?_) (fun c_1 => ?_)
  · have hr := ite_n hr c_1
    refine lv_iload_n hx hb dX6_book_17 rfl (lv_at hl 1 rfl) ?_
    refine ro_S ⟨hx, hb, hml, hown, hts⟩ (k_X6_isRow l dC dI cI cJ p0) (va_cwS 1 hts gX6_book_X6_isRow rfl rfl rfl (by decide +kernel) ⟨Nat.le_of_ble_eq_true rfl, Nat.le_of_ble_eq_true rfl⟩) hE (hP.sub [] rfl) rfl hl.1 rfl (Nat.le_of_ble_eq_true rfl) dX6_book_18 ⟨Nat.zero_le _, Nat.zero_le _⟩ ?_
    refine lv_if_ne (tgt := 26) hx hb dX6_book_21 (by decide) (fun c_2 => ?_) (fun c_2 => ?_)
    · have hr := ite_n hr c_2
      refine lv_iload_n hx hb dX6_book_26 rfl (lv_at hl 2 rfl) ?_
      refine lv_iconst (v := (0 : Int32)) hx hb dX6_book_27 (by decide) ?_
      refine lv_sipush (v := (2400 : Int32)) hx hb dX6_book_28 (by decide) ?_
      refine ro_S ⟨hx, hb, hml, hown, hts⟩ (k_X6_isWithin l dC dI cI cJ p1 (0 : Int32) (2400 : Int32)) (va_cwS 3 hts gX6_book_X6_isWithin rfl rfl rfl (by decide +kernel) ⟨Nat.le_of_ble_eq_true rfl, Nat.le_of_ble_eq_true rfl⟩) hE (hP.sub [] rfl) rfl hl.1 rfl (Nat.le_of_ble_eq_true rfl) dX6_book_31 ⟨Nat.zero_le _, Nat.zero_le _⟩ ?_
      refine lv_if_eq (tgt := 53) hx hb dX6_book_34 (by decide) (fun c_3 => ?_) (fun c_3 => ?_)
      · have hr := ite_p hr c_3
        refine lv_bipush (v := (-2 : Int32)) hx hb dX6_book_53 (by decide) ?_
        obtain rfl := Option.some.inj hr
        exact hret H locs _ hP hS (fun Qc free hq hf => W.iret hx hb hrt hq hf dX6_book_55 hlocks)
      · have hr := ite_n hr c_3
        refine lv_aload_n hx hb dX6_book_37 rfl (lv_at hl 0 rfl) ?_
        refine va_get (D := (dC, dI)) (ci := 5) (v := .ref a_o_now) (C := RX6) (T := TX6) (N := 7) hx hb hts iX6 hown hK hP 0 rfl rfl 1 (by decide) (hts (.fieldLink RX6 23 "PascalRows" "now" "LPascalRows$Setup;") (List.mem_of_getElem? (i := 1) rfl)) (fun _ h9 => h9) rfl dX6_book_38 ?_
        refine va_getN (host := "PascalRows") (D := (dC, dI)) (ci := 2) (v := .ref a_o_now_book) (C := RX3) (T := TX3) (N := 10) hx hb hts iX3 hown hK hP 1 rfl rfl 4 (by decide) (hE.nest 3 rfl rfl) (fun _ h9 => h9) rfl dX6_book_41 ?_
        refine lv_iload_n hx hb dX6_book_44 rfl (lv_at hl 1 rfl) ?_
        refine lv_iload_n hx hb dX6_book_45 rfl (lv_at hl 2 rfl) ?_
        refine lv_iconst (v := (0 : Int32)) hx hb dX6_book_46 (by decide) ?_
        obtain ⟨u_4, hu_4, hr⟩ := bd_e hr
        refine mu_V ⟨hx, hb, hml, hown, hts⟩ (k_X1_add l dC dI cI cJ a_o_now_book a_o_now_book_numbers p0 p1 (0 : Int32) 24 o_now_book_size o_now_book_numbers H.size u_4 hu_4) (cwV 3 hts gX6_book_X1_add rfl rfl rfl (by decide +kernel) ⟨Nat.le_of_ble_eq_true rfl, Nat.le_of_ble_eq_true rfl⟩) hE 2 rfl rfl rfl rfl hl.1 rfl (Nat.le_of_ble_eq_true rfl) dX6_book_47 ⟨Nat.zero_le _, Nat.zero_le _⟩ hP (hD.fst rfl) hS hA [2, 3] [0, 1] [0, 1, 2, 3] rfl rfl (by decide) (by decide) rfl (by decide) (W1 := [(a_o, .inr (5, [.ref a_o_triangle, .ref a_o_now, .ref a_o_kept, .ref a_o_trial, .ref a_o_reader, .ref a_o_tapes, .int o_hasImage])), (a_o_now, .inr (2, [.ref a_o_triangle, .ref a_o_now_marks, .ref a_o_now_seen, .ref a_o_now_events, .ref a_o_now_book, .int o_now_p, .int o_now_e, .int o_now_modulus, .int o_now_windowRow, .int o_now_windowPlace])), (a_o_now_book, .inr (0, [.ref a_o_now_book_numbers, .int u_4.2.2])), (a_o_now_book_numbers, .inl (cI, 24, .inl u_4.2.1))]) rfl (fun H locs hP hS => W.eq (g2 := F0 m 50 ls [.int u_4.1]) rfl ?_)
        refine lv_goto (tgt := 55) hx hb dX6_book_50 (by decide) ?_
        obtain rfl := Option.some.inj hr
        exact hret H locs _ hP hS (fun Qc free hq hf => W.iret hx hb hrt hq hf dX6_book_55 hlocks)
    · have hr := ite_p hr c_2
      refine lv_iconst (v := (-1 : Int32)) hx hb dX6_book_24 (by decide) ?_
      obtain rfl := Option.some.inj hr
      exact hret H locs _ hP hS (fun Qc free hq hf => W.iret hx hb hrt hq hf dX6_book_25 hlocks)
  · have hr := ite_p hr c_1
    refine lv_aload_n hx hb dX6_book_5 rfl (lv_at hl 0 rfl) ?_
    refine va_get (D := (dC, dI)) (ci := 5) (v := .ref a_o_now) (C := RX6) (T := TX6) (N := 7) hx hb hts iX6 hown hK hP 0 rfl rfl 1 (by decide) (hts (.fieldLink RX6 23 "PascalRows" "now" "LPascalRows$Setup;") (List.mem_of_getElem? (i := 1) rfl)) (fun _ h9 => h9) rfl dX6_book_6 ?_
    refine va_getN (host := "PascalRows") (D := (dC, dI)) (ci := 2) (v := .ref a_o_now_book) (C := RX3) (T := TX3) (N := 10) hx hb hts iX3 hown hK hP 1 rfl rfl 4 (by decide) (hE.nest 3 rfl rfl) (fun _ h9 => h9) rfl dX6_book_9 ?_
    obtain ⟨u_5, hu_5, hr⟩ := bd_e hr
    refine mu_V ⟨hx, hb, hml, hown, hts⟩ (k_X1_empty l dC dI cI cJ a_o_now_book a_o_now_book_numbers o_now_book_size H.size u_5 hu_5) (cwV 0 hts gX6_book_X1_empty rfl rfl rfl (by decide +kernel) ⟨Nat.le_of_ble_eq_true rfl, Nat.le_of_ble_eq_true rfl⟩) hE 2 rfl rfl rfl rfl hl.1 rfl (Nat.le_of_ble_eq_true rfl) dX6_book_12 ⟨Nat.zero_le _, Nat.zero_le _⟩ hP (hD.fst rfl) hS hA [2] [0, 1, 3] [0, 1, 3, 2] rfl rfl (by decide) (by decide) rfl (by decide) (W1 := [(a_o, .inr (5, [.ref a_o_triangle, .ref a_o_now, .ref a_o_kept, .ref a_o_trial, .ref a_o_reader, .ref a_o_tapes, .int o_hasImage])), (a_o_now, .inr (2, [.ref a_o_triangle, .ref a_o_now_marks, .ref a_o_now_seen, .ref a_o_now_events, .ref a_o_now_book, .int o_now_p, .int o_now_e, .int o_now_modulus, .int o_now_windowRow, .int o_now_windowPlace])), (a_o_now_book, .inr (0, [.ref a_o_now_book_numbers, .int u_5])), (a_o_now_book_numbers, .inl (cI, 24, .inl o_now_book_numbers))]) rfl (fun H locs hP hS => W.eq (g2 := F0 m 15 ls []) rfl ?_)
    refine lv_iconst (v := (0 : Int32)) hx hb dX6_book_15 (by decide) ?_
    obtain rfl := Option.some.inj hr
    exact hret H locs _ hP hS (fun Qc free hq hf => W.iret hx hb hrt hq hf dX6_book_16 hlocks)
/-! X6_looked -/
def rmX6_looked : Room := { frames := 3, cells := 0, slots := 0, locals := 69 }
set_option maxHeartbeats 4000000 in
set_option maxRecDepth 100000 in
theorem k_X6_looked (l : Launch) (dC : Nat → ClassId) (dI : Nat → Nat → Nat) (cI cJ : ClassId) (a_o : Nat) (a_o_triangle : Nat) (a_o_now : Nat) (a_o_kept : Nat) (a_o_trial : Nat) (a_o_reader : Nat) (a_o_tapes : Nat) (a_o_triangle_halves : Nat) (a_o_now_marks : Nat) (a_o_now_seen : Nat) (a_o_now_events : Nat) (a_o_now_book : Nat) (a_o_now_book_numbers : Nat) (o_hasImage : Int32) (o_triangle_halves : Nat → Int32) (o_now_p : Int32) (o_now_e : Int32) (o_now_modulus : Int32) (o_now_windowRow : Int32) (o_now_windowPlace : Int32) (o_now_book_size : Int32) (o_now_book_numbers : Nat → Int32) (r : Int32) (hr : f_X6_looked o_triangle_halves o_now_book_numbers o_now_book_size o_now_modulus = some r) : Met l yX6_looked wsX6_looked rmX6_looked (va_Pc [.ref a_o] (pE (dC, dI) cI cJ [(a_o, .inr (5, [.ref a_o_triangle, .ref a_o_now, .ref a_o_kept, .ref a_o_trial, .ref a_o_reader, .ref a_o_tapes, .int o_hasImage])), (a_o_triangle, .inr (4, [.ref a_o_triangle_halves])), (a_o_triangle_halves, .inl (cI, 4160, .inl o_triangle_halves)), (a_o_now, .inr (2, [.ref a_o_triangle, .ref a_o_now_marks, .ref a_o_now_seen, .ref a_o_now_events, .ref a_o_now_book, .int o_now_p, .int o_now_e, .int o_now_modulus, .int o_now_windowRow, .int o_now_windowPlace])), (a_o_now_book, .inr (0, [.ref a_o_now_book_numbers, .int o_now_book_size])), (a_o_now_book_numbers, .inl (cI, 24, .inl o_now_book_numbers))])) (rq (.int r)) 0 0 nofree := by
  refine ro_of_i (cc := cX6_looked) (maxL := 2) (by decide) rfl (Nat.le_of_ble_eq_true rfl) ?_
  intro p e s m args below meth c Q ls hx hb hml hown hts hE hP hret hl
  have hK := hE.1
  have hl : lv_has ls 2 [(0, .ref a_o)] := hl
  unfold f_X6_looked at hr
  have iX1 : ∀ w ∈ wsX10, w ∈ wsX6_looked := memr_ (big := wsX6_looked) wsX10 [46, 47] (by decide +kernel)
  have iX3 : ∀ w ∈ wsX30, w ∈ wsX6_looked := memr_ (big := wsX6_looked) wsX30 [36, 37, 38, 39, 40, 41, 42, 43, 44, 45] (by decide +kernel)
  have iX5 : ∀ w ∈ wsX50, w ∈ wsX6_looked := memr_ (big := wsX6_looked) wsX50 [48] (by decide +kernel)
  have iX6 : ∀ w ∈ wsX60, w ∈ wsX6_looked := memr_ (big := wsX6_looked) wsX60 [29, 30, 31, 32, 33, 34, 35] (by decide +kernel)
  refine lv_iconst (v := (0 : Int32)) hx hb dX6_looked_0 (by decide) ?_
  refine lv_istore_n (lv' := [(1, .int (0 : Int32)), (0, .ref a_o)]) hx hb dX6_looked_1 rfl hl (by decide) rfl (fun ls hl => ?_)
  have hL2 : ∀  (k_2 : Option (Int32)) (hk : ∀  (ls : Array Slot), lv_has ls 2 [] → k_2 = some r → W p l e rmX6_looked s m args below meth c s.heap [] 0 0 Q (F0 m 60 ls [])) (fuel : Nat) (v1_2 : Int32) (ls : Array Slot), lv_has ls 2 [(0, .ref a_o), (1, .int v1_2)] → f_X6_looked_L2 k_2 o_triangle_halves o_now_book_numbers o_now_book_size o_now_modulus fuel v1_2 = some r → W p l e rmX6_looked s m args below meth c s.heap [] 0 0 Q (F0 m 2 ls []) := by
    intro k_2 hk fuel
    induction fuel with
    | zero =>
      intro v1_2 ls hl hr
      rw [f_X6_looked_L2_z] at hr
      cases hr
    | succ fuel ih =>
      intro v1_2 ls hl hr
      rw [f_X6_looked_L2_s] at hr
      refine lv_iload_n hx hb dX6_looked_2 rfl (lv_at hl 1 rfl) ?_
      refine lv_aload_n hx hb dX6_looked_3 rfl (lv_at hl 0 rfl) ?_
      refine va_get (D := (dC, dI)) (ci := 5) (v := .ref a_o_now) (C := RX6) (T := TX6) (N := 7) hx hb hts iX6 hown hK hP 0 rfl rfl 1 (by decide) (hts (.fieldLink RX6 23 "PascalRows" "now" "LPascalRows$Setup;") (List.mem_of_getElem? (i := 1) rfl)) (fun _ h9 => h9) rfl dX6_looked_4 ?_
      refine va_getN (host := "PascalRows") (D := (dC, dI)) (ci := 2) (v := .ref a_o_now_book) (C := RX3) (T := TX3) (N := 10) hx hb hts iX3 hown hK hP 3 rfl rfl 4 (by decide) (hE.nest 3 rfl rfl) (fun _ h9 => h9) rfl dX6_looked_7 ?_
      refine va_getN (host := "PascalRows") (D := (dC, dI)) (ci := 0) (v := .int o_now_book_size) (C := RX1) (T := TX1) (N := 2) hx hb hts iX1 hown hK hP 4 rfl rfl 1 (by decide) (hE.nest 8 rfl rfl) (fun _ h9 => h9) rfl dX6_looked_10 ?_
      refine lv_icmp_ge (tgt := 60) hx hb dX6_looked_13 (by decide) (fun c_1 => ?_) (fun c_1 => ?_)
      · have hr := ite_p hr c_1
        exact hk  ls (lv_sub hl [] rfl) hr
      · have hr := ite_n hr c_1
        refine lv_aload_n hx hb dX6_looked_16 rfl (lv_at hl 0 rfl) ?_
        refine va_get (D := (dC, dI)) (ci := 5) (v := .ref a_o_now) (C := RX6) (T := TX6) (N := 7) hx hb hts iX6 hown hK hP 0 rfl rfl 1 (by decide) (hts (.fieldLink RX6 23 "PascalRows" "now" "LPascalRows$Setup;") (List.mem_of_getElem? (i := 1) rfl)) (fun _ h9 => h9) rfl dX6_looked_17 ?_
        refine lv_aload_n hx hb dX6_looked_20 rfl (lv_at hl 0 rfl) ?_
        refine va_get (D := (dC, dI)) (ci := 5) (v := .ref a_o_now) (C := RX6) (T := TX6) (N := 7) hx hb hts iX6 hown hK hP 0 rfl rfl 1 (by decide) (hts (.fieldLink RX6 23 "PascalRows" "now" "LPascalRows$Setup;") (List.mem_of_getElem? (i := 1) rfl)) (fun _ h9 => h9) rfl dX6_looked_21 ?_
        refine va_getN (host := "PascalRows") (D := (dC, dI)) (ci := 2) (v := .ref a_o_now_book) (C := RX3) (T := TX3) (N := 10) hx hb hts iX3 hown hK hP 3 rfl rfl 4 (by decide) (hE.nest 3 rfl rfl) (fun _ h9 => h9) rfl dX6_looked_24 ?_
        refine lv_iload_n hx hb dX6_looked_27 rfl (lv_at hl 1 rfl) ?_
        refine lv_iconst (v := (0 : Int32)) hx hb dX6_looked_28 (by decide) ?_
        obtain ⟨u_2, hu_2, hr⟩ := bd_e hr
        refine ro_V ⟨hx, hb, hml, hown, hts⟩ (k_X1_number l dC dI cI cJ a_o_now_book a_o_now_book_numbers v1_2 (0 : Int32) 24 o_now_book_size o_now_book_numbers u_2 hu_2) (cwV 2 hts gX6_looked_X1_number rfl rfl rfl (by decide +kernel) ⟨Nat.le_of_ble_eq_true rfl, Nat.le_of_ble_eq_true rfl⟩) hE hP 4 rfl rfl rfl (hP.sub [4, 5] rfl) rfl hl.1 rfl (Nat.le_of_ble_eq_true rfl) dX6_looked_29 ⟨Nat.zero_le _, Nat.zero_le _⟩ ?_
        refine lv_bipush (v := (10 : Int32)) hx hb dX6_looked_32 (by decide) ?_
        obtain ⟨u_3, hu_3, hr⟩ := bd_e hr
        refine ro_V ⟨hx, hb, hml, hown, hts⟩ (k_X3_remainder l dC dI cI cJ a_o_now a_o_triangle a_o_now_marks a_o_now_seen a_o_now_events a_o_now_book a_o_triangle_halves u_2 (10 : Int32) o_now_p o_now_e o_now_modulus o_now_windowRow o_now_windowPlace o_triangle_halves u_3 hu_3) (cwV 2 hts gX6_looked_X3_remainder rfl rfl rfl (by decide +kernel) ⟨Nat.le_of_ble_eq_true rfl, Nat.le_of_ble_eq_true rfl⟩) hE hP 3 rfl rfl rfl (hP.sub [3, 1, 2] rfl) rfl hl.1 rfl (Nat.le_of_ble_eq_true rfl) dX6_looked_34 ⟨Nat.zero_le _, Nat.zero_le _⟩ ?_
        refine lv_aload_n hx hb dX6_looked_37 rfl (lv_at hl 0 rfl) ?_
        refine va_get (D := (dC, dI)) (ci := 5) (v := .ref a_o_now) (C := RX6) (T := TX6) (N := 7) hx hb hts iX6 hown hK hP 0 rfl rfl 1 (by decide) (hts (.fieldLink RX6 23 "PascalRows" "now" "LPascalRows$Setup;") (List.mem_of_getElem? (i := 1) rfl)) (fun _ h9 => h9) rfl dX6_looked_38 ?_
        refine va_getN (host := "PascalRows") (D := (dC, dI)) (ci := 2) (v := .ref a_o_now_book) (C := RX3) (T := TX3) (N := 10) hx hb hts iX3 hown hK hP 3 rfl rfl 4 (by decide) (hE.nest 3 rfl rfl) (fun _ h9 => h9) rfl dX6_looked_41 ?_
        refine lv_iload_n hx hb dX6_looked_44 rfl (lv_at hl 1 rfl) ?_
        refine lv_iconst (v := (1 : Int32)) hx hb dX6_looked_45 (by decide) ?_
        obtain ⟨u_4, hu_4, hr⟩ := bd_e hr
        refine ro_V ⟨hx, hb, hml, hown, hts⟩ (k_X1_number l dC dI cI cJ a_o_now_book a_o_now_book_numbers v1_2 (1 : Int32) 24 o_now_book_size o_now_book_numbers u_4 hu_4) (cwV 2 hts gX6_looked_X1_number rfl rfl rfl (by decide +kernel) ⟨Nat.le_of_ble_eq_true rfl, Nat.le_of_ble_eq_true rfl⟩) hE hP 4 rfl rfl rfl (hP.sub [4, 5] rfl) rfl hl.1 rfl (Nat.le_of_ble_eq_true rfl) dX6_looked_46 ⟨Nat.zero_le _, Nat.zero_le _⟩ ?_
        refine lv_icmp_eq (tgt := 54) hx hb dX6_looked_49 (by decide) (fun c_5 => ?_) (fun c_5 => ?_)
        · have hr := ite_p hr c_5
          refine lv_iinc (v := (v1_2 + (1 : Int32))) (lv' := [(1, .int (v1_2 + (1 : Int32))), (0, .ref a_o)]) hx hb dX6_looked_54 hl (k := 1) rfl (congrArg (fun z => v1_2 + z) (by decide)) (by decide) rfl (fun ls hl => ?_)
          refine lv_goto (tgt := 2) hx hb dX6_looked_57 (by decide) ?_
          exact ih (v1_2 + (1 : Int32)) ls (lv_sub hl [1, 0] rfl) hr
        · have hr := ite_n hr c_5
          refine lv_iload_n hx hb dX6_looked_52 rfl (lv_at hl 1 rfl) ?_
          exact hret 53 ls _ dX6_looked_53 (Option.some.inj hr)
  refine hL2  _ (fun  ls hl hr => ?_) 5000 (0 : Int32) ls (lv_sub hl [1, 0] rfl) hr
  refine lv_bipush (v := (-5 : Int32)) hx hb dX6_looked_60 (by decide) ?_
  exact hret 62 ls _ dX6_looked_62 (Option.some.inj hr)
/-! X6_judge -/
def rmX6_judge : Room := { frames := 3, cells := 0, slots := 0, locals := 69 }
set_option maxHeartbeats 4000000 in
set_option maxRecDepth 100000 in
theorem k_X6_judge (l : Launch) (dC : Nat → ClassId) (dI : Nat → Nat → Nat) (cI cJ : ClassId) (a_o : Nat) (a_o_triangle : Nat) (a_o_now : Nat) (a_o_kept : Nat) (a_o_trial : Nat) (a_o_reader : Nat) (a_o_tapes : Nat) (a_o_triangle_halves : Nat) (a_o_now_marks : Nat) (a_o_now_seen : Nat) (a_o_now_events : Nat) (a_o_now_book : Nat) (a_o_tapes_sorts : Nat) (a_o_tapes_lengths : Nat) (a_o_tapes_items : Nat) (p0 : Int32) (p1 : Int32) (p2 : Int32) (o_hasImage : Int32) (o_triangle_halves : Nat → Int32) (o_now_p : Int32) (o_now_e : Int32) (o_now_modulus : Int32) (o_now_windowRow : Int32) (o_now_windowPlace : Int32) (o_tapes_sorts : Nat → Int32) (o_tapes_lengths : Nat → Int32) (o_tapes_items : Nat → Int64) (r : Int32) (hr : f_X6_judge p0 p1 p2 o_triangle_halves o_now_modulus o_tapes_sorts o_tapes_lengths o_tapes_items = some r) : Met l yX6_judge wsX6_judge rmX6_judge (va_Pc [.ref a_o, .int p0, .int p1, .int p2] (pE (dC, dI) cI cJ [(a_o, .inr (5, [.ref a_o_triangle, .ref a_o_now, .ref a_o_kept, .ref a_o_trial, .ref a_o_reader, .ref a_o_tapes, .int o_hasImage])), (a_o_triangle, .inr (4, [.ref a_o_triangle_halves])), (a_o_triangle_halves, .inl (cI, 4160, .inl o_triangle_halves)), (a_o_now, .inr (2, [.ref a_o_triangle, .ref a_o_now_marks, .ref a_o_now_seen, .ref a_o_now_events, .ref a_o_now_book, .int o_now_p, .int o_now_e, .int o_now_modulus, .int o_now_windowRow, .int o_now_windowPlace])), (a_o_tapes, .inr (3, [.ref a_o_tapes_sorts, .ref a_o_tapes_lengths, .ref a_o_tapes_items])), (a_o_tapes_sorts, .inl (cI, 6, .inl o_tapes_sorts)), (a_o_tapes_lengths, .inl (cI, 6, .inl o_tapes_lengths)), (a_o_tapes_items, .inl (cJ, 360, .inr (.inl o_tapes_items)))])) (rq (.int r)) 0 0 nofree := by
  refine ro_of_i (cc := cX6_judge) (maxL := 7) (by decide) rfl (Nat.le_of_ble_eq_true rfl) ?_
  intro p e s m args below meth c Q ls hx hb hml hown hts hE hP hret hl
  have hK := hE.1
  have hl : lv_has ls 7 [(0, .ref a_o), (1, .int p0), (2, .int p1), (3, .int p2)] := hl
  unfold f_X6_judge at hr
  have iX3 : ∀ w ∈ wsX30, w ∈ wsX6_judge := memr_ (big := wsX6_judge) wsX30 [61, 62, 63, 64, 65, 66, 67, 68, 69, 70] (by decide +kernel)
  have iX4 : ∀ w ∈ wsX40, w ∈ wsX6_judge := memr_ (big := wsX6_judge) wsX40 [58, 59, 60] (by decide +kernel)
  have iX5 : ∀ w ∈ wsX50, w ∈ wsX6_judge := memr_ (big := wsX6_judge) wsX50 [71] (by decide +kernel)
  have iX6 : ∀ w ∈ wsX60, w ∈ wsX6_judge := memr_ (big := wsX6_judge) wsX60 [51, 52, 53, 54, 55, 56, 57] (by decide +kernel)
  refine lv_iload_n hx hb dX6_judge_0 rfl (lv_at hl 1 rfl) ?_
  refine ro_S ⟨hx, hb, hml, hown, hts⟩ (k_X6_isRow l dC dI cI cJ p0) (va_cwS 1 hts gX6_judge_X6_isRow rfl rfl rfl (by decide +kernel) ⟨Nat.le_of_ble_eq_true rfl, Nat.le_of_ble_eq_true rfl⟩) hE (hP.sub [] rfl) rfl hl.1 rfl (Nat.le_of_ble_eq_true rfl) dX6_judge_1 ⟨Nat.zero_le _, Nat.zero_le _⟩ ?_
  have tT_2 : (((f_X6_isRow p0) = 0) ∨ ((f_X4_isThere p1) = 0)) → W p l e rmX6_judge s m args below meth c s.heap [] 0 0 Q (F0 m 14 ls []) := by
    intro hc_1
    have hr := ite_p hr hc_1
    refine lv_iconst (v := (-1 : Int32)) hx hb dX6_judge_14 (by decide) ?_
    exact hret 15 ls _ dX6_judge_15 (Option.some.inj hr)
  have tF_3 : ¬ (((f_X6_isRow p0) = 0) ∨ ((f_X4_isThere p1) = 0)) → W p l e rmX6_judge s m args below meth c s.heap [] 0 0 Q (F0 m 16 ls []) := by
    intro hc_1
    have hr := ite_n hr hc_1
    refine lv_aload_n hx hb dX6_judge_16 rfl (lv_at hl 0 rfl) ?_
    refine va_get (D := (dC, dI)) (ci := 5) (v := .ref a_o_tapes) (C := RX6) (T := TX6) (N := 7) hx hb hts iX6 hown hK hP 0 rfl rfl 5 (by decide) (hts (.fieldLink RX6 43 "PascalRows" "tapes" "LPascalRows$Tapes;") (List.mem_of_getElem? (i := 1) rfl)) (fun _ h9 => h9) rfl dX6_judge_17 ?_
    refine lv_iload_n hx hb dX6_judge_20 rfl (lv_at hl 2 rfl) ?_
    obtain ⟨u_4, hu_4, hr⟩ := bd_e hr
    refine ro_V ⟨hx, hb, hml, hown, hts⟩ (k_X4_sortOf l dC dI cI cJ a_o_tapes a_o_tapes_sorts a_o_tapes_lengths a_o_tapes_items p1 o_tapes_sorts u_4 hu_4) (cwV 1 hts gX6_judge_X4_sortOf rfl rfl rfl (by decide +kernel) ⟨Nat.le_of_ble_eq_true rfl, Nat.le_of_ble_eq_true rfl⟩) hE hP 4 rfl rfl rfl (hP.sub [4, 5] rfl) rfl hl.1 rfl (Nat.le_of_ble_eq_true rfl) dX6_judge_21 ⟨Nat.zero_le _, Nat.zero_le _⟩ ?_
    refine lv_istore (lv' := [(4, .int u_4), (0, .ref a_o), (1, .int p0), (2, .int p1), (3, .int p2)]) hx hb dX6_judge_24 hl (by decide) rfl (fun ls hl => ?_)
    refine lv_iload hx hb dX6_judge_26 (lv_at hl 0 rfl) ?_
    refine lv_iconst (v := (-1 : Int32)) hx hb dX6_judge_28 (by decide) ?_
    refine lv_icmp_ne (tgt := 36) hx hb dX6_judge_29 (by decide) (fun c_5 => ?_) (fun c_5 => ?_)
    · have hr := ite_n hr c_5
      refine lv_iload hx hb dX6_judge_36 (lv_at hl 0 rfl) ?_
      refine lv_iconst (v := (1 : Int32)) hx hb dX6_judge_38 (by decide) ?_
      refine lv_icmp_eq (tgt := 45) hx hb dX6_judge_39 (by decide) (fun c_6 => ?_) (fun c_6 => ?_)
      · have hr := ite_p hr c_6
        refine lv_iload_n hx hb dX6_judge_45 rfl (lv_at hl 4 rfl) ?_
        refine lv_if_ge (tgt := 53) hx hb dX6_judge_46 (by decide) (fun c_7 => ?_) (fun c_7 => ?_)
        · have hr := ite_p hr c_7
          refine lv_aload_n hx hb dX6_judge_53 rfl (lv_at hl 1 rfl) ?_
          refine va_get (D := (dC, dI)) (ci := 5) (v := .ref a_o_tapes) (C := RX6) (T := TX6) (N := 7) hx hb hts iX6 hown hK hP 0 rfl rfl 5 (by decide) (hts (.fieldLink RX6 43 "PascalRows" "tapes" "LPascalRows$Tapes;") (List.mem_of_getElem? (i := 1) rfl)) (fun _ h9 => h9) rfl dX6_judge_54 ?_
          refine lv_iload_n hx hb dX6_judge_57 rfl (lv_at hl 3 rfl) ?_
          obtain ⟨u_8, hu_8, hr⟩ := bd_e hr
          refine ro_V ⟨hx, hb, hml, hown, hts⟩ (k_X4_lengthOf l dC dI cI cJ a_o_tapes a_o_tapes_sorts a_o_tapes_lengths a_o_tapes_items p1 o_tapes_lengths u_8 hu_8) (cwV 1 hts gX6_judge_X4_lengthOf rfl rfl rfl (by decide +kernel) ⟨Nat.le_of_ble_eq_true rfl, Nat.le_of_ble_eq_true rfl⟩) hE hP 4 rfl rfl rfl (hP.sub [4, 6] rfl) rfl hl.1 rfl (Nat.le_of_ble_eq_true rfl) dX6_judge_58 ⟨Nat.zero_le _, Nat.zero_le _⟩ ?_
          refine lv_iload_n hx hb dX6_judge_61 rfl (lv_at hl 4 rfl) ?_
          refine lv_isub hx hb dX6_judge_62 ?_
          refine lv_istore (lv' := [(5, .int (u_8 - p2)), (4, .int u_4), (0, .ref a_o), (1, .int p0), (2, .int p1), (3, .int p2)]) hx hb dX6_judge_63 hl (by decide) rfl (fun ls hl => ?_)
          refine lv_iconst (v := (0 : Int32)) hx hb dX6_judge_65 (by decide) ?_
          refine lv_istore (lv' := [(6, .int (0 : Int32)), (5, .int (u_8 - p2)), (4, .int u_4), (0, .ref a_o), (1, .int p0), (2, .int p1), (3, .int p2)]) hx hb dX6_judge_66 hl (by decide) rfl (fun ls hl => ?_)
          have hL68 : ∀ (v1_68 : Int32) (v2_68 : Int32) (v3_68 : Int32) (v5_68 : Int32) (k_68 : Option (Int32)) (hk : ∀  (ls : Array Slot), lv_has ls 7 [] → k_68 = some r → W p l e rmX6_judge s m args below meth c s.heap [] 0 0 Q (F0 m 124 ls [])) (fuel : Nat) (v6_68 : Int32) (ls : Array Slot), lv_has ls 7 [(0, .ref a_o), (1, .int v1_68), (2, .int v2_68), (3, .int v3_68), (5, .int v5_68), (6, .int v6_68)] → f_X6_judge_L68 k_68 v1_68 v2_68 v3_68 v5_68 o_triangle_halves o_now_modulus o_tapes_lengths o_tapes_items fuel v6_68 = some r → W p l e rmX6_judge s m args below meth c s.heap [] 0 0 Q (F0 m 68 ls []) := by
            intro v1_68 v2_68 v3_68 v5_68 k_68 hk fuel
            induction fuel with
            | zero =>
              intro v6_68 ls hl hr
              rw [f_X6_judge_L68_z] at hr
              cases hr
            | succ fuel ih =>
              intro v6_68 ls hl hr
              rw [f_X6_judge_L68_s] at hr
              refine lv_iload hx hb dX6_judge_68 (lv_at hl 5 rfl) ?_
              refine lv_iload_n hx hb dX6_judge_70 rfl (lv_at hl 1 rfl) ?_
              refine lv_icmp_gt (tgt := 124) hx hb dX6_judge_71 (by decide) (fun c_9 => ?_) (fun c_9 => ?_)
              · have hr := ite_p hr c_9
                exact hk  ls (lv_sub hl [] rfl) hr
              · have hr := ite_n hr c_9
                refine lv_iload hx hb dX6_judge_74 (lv_at hl 5 rfl) ?_
                refine lv_iload hx hb dX6_judge_76 (lv_at hl 4 rfl) ?_
                refine lv_icmp_lt (tgt := 88) hx hb dX6_judge_78 (by decide) (fun c_10 => ?_) (fun c_10 => ?_)
                · have hr := ite_p hr c_10
                  refine lv_aload_n hx hb dX6_judge_88 rfl (lv_at hl 0 rfl) ?_
                  refine va_get (D := (dC, dI)) (ci := 5) (v := .ref a_o_tapes) (C := RX6) (T := TX6) (N := 7) hx hb hts iX6 hown hK hP 0 rfl rfl 5 (by decide) (hts (.fieldLink RX6 43 "PascalRows" "tapes" "LPascalRows$Tapes;") (List.mem_of_getElem? (i := 1) rfl)) (fun _ h9 => h9) rfl dX6_judge_89 ?_
                  refine lv_iload_n hx hb dX6_judge_92 rfl (lv_at hl 2 rfl) ?_
                  refine lv_iload_n hx hb dX6_judge_93 rfl (lv_at hl 3 rfl) ?_
                  refine lv_iload hx hb dX6_judge_94 (lv_at hl 5 rfl) ?_
                  refine lv_iadd hx hb dX6_judge_96 ?_
                  obtain ⟨u_11, hu_11, hr⟩ := bd_e hr
                  refine ro_V ⟨hx, hb, hml, hown, hts⟩ (k_X4_value l dC dI cI cJ a_o_tapes a_o_tapes_sorts a_o_tapes_lengths a_o_tapes_items v2_68 (v3_68 + v6_68) o_tapes_lengths o_tapes_items u_11 hu_11) (cwV 2 hts gX6_judge_X4_value rfl rfl rfl (by decide +kernel) ⟨Nat.le_of_ble_eq_true rfl, Nat.le_of_ble_eq_true rfl⟩) hE hP 4 rfl rfl rfl (hP.sub [4, 6, 7] rfl) rfl hl.1 rfl (Nat.le_of_ble_eq_true rfl) dX6_judge_97 ⟨Nat.zero_le _, Nat.zero_le _⟩ ?_
                  refine lv_aload_n hx hb dX6_judge_100 rfl (lv_at hl 0 rfl) ?_
                  refine va_get (D := (dC, dI)) (ci := 5) (v := .ref a_o_now) (C := RX6) (T := TX6) (N := 7) hx hb hts iX6 hown hK hP 0 rfl rfl 1 (by decide) (hts (.fieldLink RX6 23 "PascalRows" "now" "LPascalRows$Setup;") (List.mem_of_getElem? (i := 2) rfl)) (fun _ h9 => h9) rfl dX6_judge_101 ?_
                  refine lv_iload_n hx hb dX6_judge_104 rfl (lv_at hl 1 rfl) ?_
                  refine lv_iload hx hb dX6_judge_105 (lv_at hl 5 rfl) ?_
                  obtain ⟨u_12, hu_12, hr⟩ := bd_e hr
                  refine ro_V ⟨hx, hb, hml, hown, hts⟩ (k_X3_remainder l dC dI cI cJ a_o_now a_o_triangle a_o_now_marks a_o_now_seen a_o_now_events a_o_now_book a_o_triangle_halves v1_68 v6_68 o_now_p o_now_e o_now_modulus o_now_windowRow o_now_windowPlace o_triangle_halves u_12 hu_12) (cwV 2 hts gX6_judge_X3_remainder rfl rfl rfl (by decide +kernel) ⟨Nat.le_of_ble_eq_true rfl, Nat.le_of_ble_eq_true rfl⟩) hE hP 3 rfl rfl rfl (hP.sub [3, 1, 2] rfl) rfl hl.1 rfl (Nat.le_of_ble_eq_true rfl) dX6_judge_107 ⟨Nat.zero_le _, Nat.zero_le _⟩ ?_
                  refine lv_i2l (v := (Int32.toInt64 u_12)) hx hb dX6_judge_110 rfl ?_
                  refine W.lcmp hx hb dX6_judge_111 ?_
                  refine lv_if_eq (tgt := 118) hx hb dX6_judge_112 (by decide) (fun c_13 => ?_) (fun c_13 => ?_)
                  · have hr := ite_p hr c_13
                    refine lv_iinc (v := (v6_68 + (1 : Int32))) (lv' := [(6, .int (v6_68 + (1 : Int32))), (0, .ref a_o), (1, .int v1_68), (2, .int v2_68), (3, .int v3_68), (5, .int v5_68)]) hx hb dX6_judge_118 hl (k := 5) rfl (congrArg (fun z => v6_68 + z) (by decide)) (by decide) rfl (fun ls hl => ?_)
                    refine lv_goto (tgt := 68) hx hb dX6_judge_121 (by decide) ?_
                    exact ih (v6_68 + (1 : Int32)) ls (lv_sub hl [1, 2, 3, 4, 5, 0] rfl) hr
                  · have hr := ite_n hr c_13
                    refine lv_iload hx hb dX6_judge_115 (lv_at hl 5 rfl) ?_
                    exact hret 117 ls _ dX6_judge_117 (Option.some.inj hr)
                · have hr := ite_n hr c_10
                  refine lv_sipush (v := (200 : Int32)) hx hb dX6_judge_81 (by decide) ?_
                  refine lv_iload hx hb dX6_judge_84 (lv_at hl 5 rfl) ?_
                  refine lv_iadd hx hb dX6_judge_86 ?_
                  exact hret 87 ls _ dX6_judge_87 (Option.some.inj hr)
          refine hL68 p0 p1 p2 (u_8 - p2) _ (fun  ls hl hr => ?_) 5000 (0 : Int32) ls (lv_sub hl [3, 4, 5, 6, 1, 0] rfl) hr
          refine lv_bipush (v := (-5 : Int32)) hx hb dX6_judge_124 (by decide) ?_
          exact hret 126 ls _ dX6_judge_126 (Option.some.inj hr)
        · have hr := ite_n hr c_7
          refine lv_sipush (v := (200 : Int32)) hx hb dX6_judge_49 (by decide) ?_
          exact hret 52 ls _ dX6_judge_52 (Option.some.inj hr)
      · have hr := ite_n hr c_6
        refine lv_bipush (v := (-12 : Int32)) hx hb dX6_judge_42 (by decide) ?_
        exact hret 44 ls _ dX6_judge_44 (Option.some.inj hr)
    · have hr := ite_p hr c_5
      refine lv_sipush (v := (200 : Int32)) hx hb dX6_judge_32 (by decide) ?_
      exact hret 35 ls _ dX6_judge_35 (Option.some.inj hr)
  refine lv_if_eq (tgt := 14) hx hb dX6_judge_4 (by decide) (fun c_14 => ?_) (fun c_14 => ?_)
  · exact tT_2 (Or.inl c_14)
  · refine lv_iload_n hx hb dX6_judge_7 rfl (lv_at hl 2 rfl) ?_
    refine ro_S ⟨hx, hb, hml, hown, hts⟩ (k_X4_isThere l dC dI cI cJ p1) (va_cwS 1 hts gX6_judge_X4_isThere rfl rfl rfl (by decide +kernel) ⟨Nat.le_of_ble_eq_true rfl, Nat.le_of_ble_eq_true rfl⟩) hE (hP.sub [] rfl) rfl hl.1 rfl (Nat.le_of_ble_eq_true rfl) dX6_judge_8 ⟨Nat.zero_le _, Nat.zero_le _⟩ ?_
    refine lv_if_ne (tgt := 16) hx hb dX6_judge_11 (by decide) (fun c_15 => ?_) (fun c_15 => ?_)
    · exact tF_3 (fun h => h.elim c_14 c_15)
    · exact tT_2 (Or.inr c_15)
/-! X6_image -/
def rmX6_image : Room := { frames := 3, cells := 0, slots := 0, locals := 102 }
set_option maxHeartbeats 4000000 in
set_option maxRecDepth 100000 in
theorem k_X6_image (l : Launch) (dC : Nat → ClassId) (dI : Nat → Nat → Nat) (cI cJ : ClassId) (a_o : Nat) (a_o_triangle : Nat) (a_o_now : Nat) (a_o_kept : Nat) (a_o_trial : Nat) (a_o_reader : Nat) (a_o_tapes : Nat) (a_o_now_marks : Nat) (a_o_now_seen : Nat) (a_o_now_events : Nat) (a_o_now_book : Nat) (a_o_now_marks_numbers : Nat) (a_o_now_seen_numbers : Nat) (a_o_now_events_numbers : Nat) (a_o_now_book_numbers : Nat) (a_o_kept_marks : Nat) (a_o_kept_seen : Nat) (a_o_kept_events : Nat) (a_o_kept_book : Nat) (a_o_kept_marks_numbers : Nat) (a_o_kept_seen_numbers : Nat) (a_o_kept_events_numbers : Nat) (a_o_kept_book_numbers : Nat) (o_hasImage : Int32) (o_now_p : Int32) (o_now_e : Int32) (o_now_modulus : Int32) (o_now_windowRow : Int32) (o_now_windowPlace : Int32) (o_now_marks_size : Int32) (o_now_marks_numbers : Nat → Int32) (o_now_seen_size : Int32) (o_now_seen_numbers : Nat → Int32) (o_now_events_size : Int32) (o_now_events_numbers : Nat → Int32) (o_now_book_size : Int32) (o_now_book_numbers : Nat → Int32) (o_kept_p : Int32) (o_kept_e : Int32) (o_kept_modulus : Int32) (o_kept_windowRow : Int32) (o_kept_windowPlace : Int32) (o_kept_marks_size : Int32) (o_kept_marks_numbers : Nat → Int32) (o_kept_seen_size : Int32) (o_kept_seen_numbers : Nat → Int32) (o_kept_events_size : Int32) (o_kept_events_numbers : Nat → Int32) (o_kept_book_size : Int32) (o_kept_book_numbers : Nat → Int32) (sz : Nat) (r : Int32 × (Nat → Int32) × Int32 × (Nat → Int32) × Int32 × (Nat → Int32) × Int32 × (Nat → Int32) × Int32 × Int32 × Int32 × Int32 × Int32 × Int32 × Int32) (hr : f_X6_image o_now_marks_numbers o_now_marks_size o_now_seen_numbers o_now_seen_size o_now_events_numbers o_now_events_size o_now_book_numbers o_now_book_size o_now_p o_now_e o_now_modulus o_now_windowRow o_now_windowPlace o_kept_marks_numbers o_kept_marks_size o_kept_seen_numbers o_kept_seen_size o_kept_events_numbers o_kept_events_size o_kept_book_numbers o_kept_book_size o_kept_p o_kept_e o_kept_modulus o_kept_windowRow o_kept_windowPlace o_hasImage = some r) : Met l yX6_image wsX6_image rmX6_image (va_Pc [.ref a_o] (pM (dC, dI) cI cJ [(a_o, .inr (5, [.ref a_o_triangle, .ref a_o_now, .ref a_o_kept, .ref a_o_trial, .ref a_o_reader, .ref a_o_tapes, .int o_hasImage])), (a_o_now, .inr (2, [.ref a_o_triangle, .ref a_o_now_marks, .ref a_o_now_seen, .ref a_o_now_events, .ref a_o_now_book, .int o_now_p, .int o_now_e, .int o_now_modulus, .int o_now_windowRow, .int o_now_windowPlace])), (a_o_now_marks, .inr (0, [.ref a_o_now_marks_numbers, .int o_now_marks_size])), (a_o_now_marks_numbers, .inl (cI, 18, .inl o_now_marks_numbers)), (a_o_now_seen, .inr (0, [.ref a_o_now_seen_numbers, .int o_now_seen_size])), (a_o_now_seen_numbers, .inl (cI, 12, .inl o_now_seen_numbers)), (a_o_now_events, .inr (0, [.ref a_o_now_events_numbers, .int o_now_events_size])), (a_o_now_events_numbers, .inl (cI, 24, .inl o_now_events_numbers)), (a_o_now_book, .inr (0, [.ref a_o_now_book_numbers, .int o_now_book_size])), (a_o_now_book_numbers, .inl (cI, 24, .inl o_now_book_numbers)), (a_o_kept, .inr (2, [.ref a_o_triangle, .ref a_o_kept_marks, .ref a_o_kept_seen, .ref a_o_kept_events, .ref a_o_kept_book, .int o_kept_p, .int o_kept_e, .int o_kept_modulus, .int o_kept_windowRow, .int o_kept_windowPlace])), (a_o_kept_marks, .inr (0, [.ref a_o_kept_marks_numbers, .int o_kept_marks_size])), (a_o_kept_marks_numbers, .inl (cI, 18, .inl o_kept_marks_numbers)), (a_o_kept_seen, .inr (0, [.ref a_o_kept_seen_numbers, .int o_kept_seen_size])), (a_o_kept_seen_numbers, .inl (cI, 12, .inl o_kept_seen_numbers)), (a_o_kept_events, .inr (0, [.ref a_o_kept_events_numbers, .int o_kept_events_size])), (a_o_kept_events_numbers, .inl (cI, 24, .inl o_kept_events_numbers)), (a_o_kept_book, .inr (0, [.ref a_o_kept_book_numbers, .int o_kept_book_size])), (a_o_kept_book_numbers, .inl (cI, 24, .inl o_kept_book_numbers))] sz)) (qM (some (.int r.1)) (dC, dI) [(a_o, .inr (5, [.ref a_o_triangle, .ref a_o_now, .ref a_o_kept, .ref a_o_trial, .ref a_o_reader, .ref a_o_tapes, .int r.2.2.2.2.2.2.2.2.2.2.2.2.2.2])), (a_o_now, .inr (2, [.ref a_o_triangle, .ref a_o_now_marks, .ref a_o_now_seen, .ref a_o_now_events, .ref a_o_now_book, .int o_now_p, .int o_now_e, .int o_now_modulus, .int o_now_windowRow, .int o_now_windowPlace])), (a_o_now_marks, .inr (0, [.ref a_o_now_marks_numbers, .int o_now_marks_size])), (a_o_now_marks_numbers, .inl (cI, 18, .inl o_now_marks_numbers)), (a_o_now_seen, .inr (0, [.ref a_o_now_seen_numbers, .int o_now_seen_size])), (a_o_now_seen_numbers, .inl (cI, 12, .inl o_now_seen_numbers)), (a_o_now_events, .inr (0, [.ref a_o_now_events_numbers, .int o_now_events_size])), (a_o_now_events_numbers, .inl (cI, 24, .inl o_now_events_numbers)), (a_o_now_book, .inr (0, [.ref a_o_now_book_numbers, .int o_now_book_size])), (a_o_now_book_numbers, .inl (cI, 24, .inl o_now_book_numbers)), (a_o_kept, .inr (2, [.ref a_o_triangle, .ref a_o_kept_marks, .ref a_o_kept_seen, .ref a_o_kept_events, .ref a_o_kept_book, .int r.2.2.2.2.2.2.2.2.2.1, .int r.2.2.2.2.2.2.2.2.2.2.1, .int r.2.2.2.2.2.2.2.2.2.2.2.1, .int r.2.2.2.2.2.2.2.2.2.2.2.2.1, .int r.2.2.2.2.2.2.2.2.2.2.2.2.2.1])), (a_o_kept_marks, .inr (0, [.ref a_o_kept_marks_numbers, .int r.2.2.1])), (a_o_kept_marks_numbers, .inl (cI, 18, .inl r.2.1)), (a_o_kept_seen, .inr (0, [.ref a_o_kept_seen_numbers, .int r.2.2.2.2.1])), (a_o_kept_seen_numbers, .inl (cI, 12, .inl r.2.2.2.1)), (a_o_kept_events, .inr (0, [.ref a_o_kept_events_numbers, .int r.2.2.2.2.2.2.1])), (a_o_kept_events_numbers, .inl (cI, 24, .inl r.2.2.2.2.2.1)), (a_o_kept_book, .inr (0, [.ref a_o_kept_book_numbers, .int r.2.2.2.2.2.2.2.2.1])), (a_o_kept_book_numbers, .inl (cI, 24, .inl r.2.2.2.2.2.2.2.1))] (va_A [(a_o, .inr (5, [.ref a_o_triangle, .ref a_o_now, .ref a_o_kept, .ref a_o_trial, .ref a_o_reader, .ref a_o_tapes, .int o_hasImage])), (a_o_now, .inr (2, [.ref a_o_triangle, .ref a_o_now_marks, .ref a_o_now_seen, .ref a_o_now_events, .ref a_o_now_book, .int o_now_p, .int o_now_e, .int o_now_modulus, .int o_now_windowRow, .int o_now_windowPlace])), (a_o_now_marks, .inr (0, [.ref a_o_now_marks_numbers, .int o_now_marks_size])), (a_o_now_marks_numbers, .inl (cI, 18, .inl o_now_marks_numbers)), (a_o_now_seen, .inr (0, [.ref a_o_now_seen_numbers, .int o_now_seen_size])), (a_o_now_seen_numbers, .inl (cI, 12, .inl o_now_seen_numbers)), (a_o_now_events, .inr (0, [.ref a_o_now_events_numbers, .int o_now_events_size])), (a_o_now_events_numbers, .inl (cI, 24, .inl o_now_events_numbers)), (a_o_now_book, .inr (0, [.ref a_o_now_book_numbers, .int o_now_book_size])), (a_o_now_book_numbers, .inl (cI, 24, .inl o_now_book_numbers)), (a_o_kept, .inr (2, [.ref a_o_triangle, .ref a_o_kept_marks, .ref a_o_kept_seen, .ref a_o_kept_events, .ref a_o_kept_book, .int o_kept_p, .int o_kept_e, .int o_kept_modulus, .int o_kept_windowRow, .int o_kept_windowPlace])), (a_o_kept_marks, .inr (0, [.ref a_o_kept_marks_numbers, .int o_kept_marks_size])), (a_o_kept_marks_numbers, .inl (cI, 18, .inl o_kept_marks_numbers)), (a_o_kept_seen, .inr (0, [.ref a_o_kept_seen_numbers, .int o_kept_seen_size])), (a_o_kept_seen_numbers, .inl (cI, 12, .inl o_kept_seen_numbers)), (a_o_kept_events, .inr (0, [.ref a_o_kept_events_numbers, .int o_kept_events_size])), (a_o_kept_events_numbers, .inl (cI, 24, .inl o_kept_events_numbers)), (a_o_kept_book, .inr (0, [.ref a_o_kept_book_numbers, .int o_kept_book_size])), (a_o_kept_book_numbers, .inl (cI, 24, .inl o_kept_book_numbers))] sz)) 0 0 (va_A [(a_o, .inr (5, [.ref a_o_triangle, .ref a_o_now, .ref a_o_kept, .ref a_o_trial, .ref a_o_reader, .ref a_o_tapes, .int o_hasImage])), (a_o_now, .inr (2, [.ref a_o_triangle, .ref a_o_now_marks, .ref a_o_now_seen, .ref a_o_now_events, .ref a_o_now_book, .int o_now_p, .int o_now_e, .int o_now_modulus, .int o_now_windowRow, .int o_now_windowPlace])), (a_o_now_marks, .inr (0, [.ref a_o_now_marks_numbers, .int o_now_marks_size])), (a_o_now_marks_numbers, .inl (cI, 18, .inl o_now_marks_numbers)), (a_o_now_seen, .inr (0, [.ref a_o_now_seen_numbers, .int o_now_seen_size])), (a_o_now_seen_numbers, .inl (cI, 12, .inl o_now_seen_numbers)), (a_o_now_events, .inr (0, [.ref a_o_now_events_numbers, .int o_now_events_size])), (a_o_now_events_numbers, .inl (cI, 24, .inl o_now_events_numbers)), (a_o_now_book, .inr (0, [.ref a_o_now_book_numbers, .int o_now_book_size])), (a_o_now_book_numbers, .inl (cI, 24, .inl o_now_book_numbers)), (a_o_kept, .inr (2, [.ref a_o_triangle, .ref a_o_kept_marks, .ref a_o_kept_seen, .ref a_o_kept_events, .ref a_o_kept_book, .int o_kept_p, .int o_kept_e, .int o_kept_modulus, .int o_kept_windowRow, .int o_kept_windowPlace])), (a_o_kept_marks, .inr (0, [.ref a_o_kept_marks_numbers, .int o_kept_marks_size])), (a_o_kept_marks_numbers, .inl (cI, 18, .inl o_kept_marks_numbers)), (a_o_kept_seen, .inr (0, [.ref a_o_kept_seen_numbers, .int o_kept_seen_size])), (a_o_kept_seen_numbers, .inl (cI, 12, .inl o_kept_seen_numbers)), (a_o_kept_events, .inr (0, [.ref a_o_kept_events_numbers, .int o_kept_events_size])), (a_o_kept_events_numbers, .inl (cI, 24, .inl o_kept_events_numbers)), (a_o_kept_book, .inr (0, [.ref a_o_kept_book_numbers, .int o_kept_book_size])), (a_o_kept_book_numbers, .inl (cI, 24, .inl o_kept_book_numbers))] sz) := by
  refine mu_of (cc := cX6_image) (maxL := 1) (by decide) rfl (Nat.le_of_ble_eq_true rfl) ?_
  intro p e s m args below meth c Q ls A hx hb hml hown hts hE hP hD hA hrt hlocks hret hl
  have hK := hE.1
  have hS : va_S A s.heap s.heap [] := va_S.rf
  have hl : lv_has ls 1 [(0, .ref a_o)] := hl
  unfold f_X6_image at hr
  obtain ⟨H, hHe⟩ : ∃ H, H = s.heap := ⟨_, rfl⟩
  obtain ⟨locs, hLe⟩ : ∃ locs : List Loc, locs = [] := ⟨_, rfl⟩
  suffices hgo : va_P (dC, dI) vwCl [(a_o, .inr (5, [.ref a_o_triangle, .ref a_o_now, .ref a_o_kept, .ref a_o_trial, .ref a_o_reader, .ref a_o_tapes, .int o_hasImage])), (a_o_now, .inr (2, [.ref a_o_triangle, .ref a_o_now_marks, .ref a_o_now_seen, .ref a_o_now_events, .ref a_o_now_book, .int o_now_p, .int o_now_e, .int o_now_modulus, .int o_now_windowRow, .int o_now_windowPlace])), (a_o_now_marks, .inr (0, [.ref a_o_now_marks_numbers, .int o_now_marks_size])), (a_o_now_marks_numbers, .inl (cI, 18, .inl o_now_marks_numbers)), (a_o_now_seen, .inr (0, [.ref a_o_now_seen_numbers, .int o_now_seen_size])), (a_o_now_seen_numbers, .inl (cI, 12, .inl o_now_seen_numbers)), (a_o_now_events, .inr (0, [.ref a_o_now_events_numbers, .int o_now_events_size])), (a_o_now_events_numbers, .inl (cI, 24, .inl o_now_events_numbers)), (a_o_now_book, .inr (0, [.ref a_o_now_book_numbers, .int o_now_book_size])), (a_o_now_book_numbers, .inl (cI, 24, .inl o_now_book_numbers)), (a_o_kept, .inr (2, [.ref a_o_triangle, .ref a_o_kept_marks, .ref a_o_kept_seen, .ref a_o_kept_events, .ref a_o_kept_book, .int o_kept_p, .int o_kept_e, .int o_kept_modulus, .int o_kept_windowRow, .int o_kept_windowPlace])), (a_o_kept_marks, .inr (0, [.ref a_o_kept_marks_numbers, .int o_kept_marks_size])), (a_o_kept_marks_numbers, .inl (cI, 18, .inl o_kept_marks_numbers)), (a_o_kept_seen, .inr (0, [.ref a_o_kept_seen_numbers, .int o_kept_seen_size])), (a_o_kept_seen_numbers, .inl (cI, 12, .inl o_kept_seen_numbers)), (a_o_kept_events, .inr (0, [.ref a_o_kept_events_numbers, .int o_kept_events_size])), (a_o_kept_events_numbers, .inl (cI, 24, .inl o_kept_events_numbers)), (a_o_kept_book, .inr (0, [.ref a_o_kept_book_numbers, .int o_kept_book_size])), (a_o_kept_book_numbers, .inl (cI, 24, .inl o_kept_book_numbers))] H → va_S A s.heap H locs → W p l e rmX6_image s m args below meth c H locs 0 0 Q (F0 m 0 ls []) by
    subst hHe; subst hLe; exact hgo hP hS
  clear hP hS hHe hLe
  intro hP hS
  have iX1 : ∀ w ∈ wsX10, w ∈ wsX6_image := memr_ (big := wsX6_image) wsX10 [54, 55] (by decide +kernel)
  have iX3 : ∀ w ∈ wsX30, w ∈ wsX6_image := memr_ (big := wsX6_image) wsX30 [44, 45, 46, 47, 48, 49, 50, 51, 52, 53] (by decide +kernel)
  have iX6 : ∀ w ∈ wsX60, w ∈ wsX6_image := memr_ (big := wsX6_image) wsX60 [37, 38, 39, 40, 41, 42, 43] (by decide +kernel)
  refine lv_aload_n hx hb dX6_image_0 rfl (lv_at hl 0 rfl) ?_
  refine va_get (D := (dC, dI)) (ci := 5) (v := .ref a_o_kept) (C := RX6) (T := TX6) (N := 7) hx hb hts iX6 hown hK hP 0 rfl rfl 2 (by decide) (hts (.fieldLink RX6 27 "PascalRows" "kept" "LPascalRows$Setup;") (List.mem_of_getElem? (i := 1) rfl)) (fun _ h9 => h9) rfl dX6_image_1 ?_
  refine lv_aload_n hx hb dX6_image_4 rfl (lv_at hl 0 rfl) ?_
  refine va_get (D := (dC, dI)) (ci := 5) (v := .ref a_o_now) (C := RX6) (T := TX6) (N := 7) hx hb hts iX6 hown hK hP 0 rfl rfl 1 (by decide) (hts (.fieldLink RX6 23 "PascalRows" "now" "LPascalRows$Setup;") (List.mem_of_getElem? (i := 2) rfl)) (fun _ h9 => h9) rfl dX6_image_5 ?_
  obtain ⟨u_1, hu_1, hr⟩ := bd_e hr
  refine mu_V ⟨hx, hb, hml, hown, hts⟩ (k_X3_copyFrom l dC dI cI cJ a_o_kept a_o_triangle a_o_kept_marks a_o_kept_seen a_o_kept_events a_o_kept_book a_o_kept_marks_numbers a_o_kept_seen_numbers a_o_kept_events_numbers a_o_kept_book_numbers a_o_now a_o_triangle a_o_now_marks a_o_now_seen a_o_now_events a_o_now_book a_o_now_marks_numbers a_o_now_seen_numbers a_o_now_events_numbers a_o_now_book_numbers o_kept_p o_kept_e o_kept_modulus o_kept_windowRow o_kept_windowPlace o_kept_marks_size o_kept_marks_numbers o_kept_seen_size o_kept_seen_numbers o_kept_events_size o_kept_events_numbers o_kept_book_size o_kept_book_numbers o_now_p o_now_e o_now_modulus o_now_windowRow o_now_windowPlace o_now_marks_size o_now_marks_numbers o_now_seen_size o_now_seen_numbers o_now_events_size o_now_events_numbers o_now_book_size o_now_book_numbers H.size u_1 hu_1) (cwV 1 hts gX6_image_X3_copyFrom rfl rfl rfl (by decide +kernel) ⟨Nat.le_of_ble_eq_true rfl, Nat.le_of_ble_eq_true rfl⟩) hE 10 rfl rfl rfl rfl hl.1 rfl (Nat.le_of_ble_eq_true rfl) dX6_image_8 ⟨Nat.zero_le _, Nat.zero_le _⟩ hP (hD.fst rfl) hS hA [10, 11, 12, 13, 14, 15, 16, 17, 18, 1, 2, 3, 4, 5, 6, 7, 8, 9] [0] [0, 10, 11, 12, 13, 14, 15, 16, 17, 18, 1, 2, 3, 4, 5, 6, 7, 8, 9] rfl rfl (by decide) (by decide) rfl (by decide) (W1 := [(a_o, .inr (5, [.ref a_o_triangle, .ref a_o_now, .ref a_o_kept, .ref a_o_trial, .ref a_o_reader, .ref a_o_tapes, .int o_hasImage])), (a_o_now, .inr (2, [.ref a_o_triangle, .ref a_o_now_marks, .ref a_o_now_seen, .ref a_o_now_events, .ref a_o_now_book, .int o_now_p, .int o_now_e, .int o_now_modulus, .int o_now_windowRow, .int o_now_windowPlace])), (a_o_now_marks, .inr (0, [.ref a_o_now_marks_numbers, .int o_now_marks_size])), (a_o_now_marks_numbers, .inl (cI, 18, .inl o_now_marks_numbers)), (a_o_now_seen, .inr (0, [.ref a_o_now_seen_numbers, .int o_now_seen_size])), (a_o_now_seen_numbers, .inl (cI, 12, .inl o_now_seen_numbers)), (a_o_now_events, .inr (0, [.ref a_o_now_events_numbers, .int o_now_events_size])), (a_o_now_events_numbers, .inl (cI, 24, .inl o_now_events_numbers)), (a_o_now_book, .inr (0, [.ref a_o_now_book_numbers, .int o_now_book_size])), (a_o_now_book_numbers, .inl (cI, 24, .inl o_now_book_numbers)), (a_o_kept, .inr (2, [.ref a_o_triangle, .ref a_o_kept_marks, .ref a_o_kept_seen, .ref a_o_kept_events, .ref a_o_kept_book, .int u_1.2.2.2.2.2.2.2.2.1, .int u_1.2.2.2.2.2.2.2.2.2.1, .int u_1.2.2.2.2.2.2.2.2.2.2.1, .int u_1.2.2.2.2.2.2.2.2.2.2.2.1, .int u_1.2.2.2.2.2.2.2.2.2.2.2.2])), (a_o_kept_marks, .inr (0, [.ref a_o_kept_marks_numbers, .int u_1.2.1])), (a_o_kept_marks_numbers, .inl (cI, 18, .inl u_1.1)), (a_o_kept_seen, .inr (0, [.ref a_o_kept_seen_numbers, .int u_1.2.2.2.1])), (a_o_kept_seen_numbers, .inl (cI, 12, .inl u_1.2.2.1)), (a_o_kept_events, .inr (0, [.ref a_o_kept_events_numbers, .int u_1.2.2.2.2.2.1])), (a_o_kept_events_numbers, .inl (cI, 24, .inl u_1.2.2.2.2.1)), (a_o_kept_book, .inr (0, [.ref a_o_kept_book_numbers, .int u_1.2.2.2.2.2.2.2.1])), (a_o_kept_book_numbers, .inl (cI, 24, .inl u_1.2.2.2.2.2.2.1))]) rfl (fun H locs hP hS => W.eq (g2 := F0 m 11 ls []) rfl ?_)
  refine lv_aload_n hx hb dX6_image_11 rfl (lv_at hl 0 rfl) ?_
  refine lv_iconst (v := (1 : Int32)) hx hb dX6_image_12 (by decide) ?_
  refine va_put (D := (dC, dI)) (ci := 5) (v := .int (1 : Int32)) (ty := .boolean) (C := RX6) (T := TX6) (N := 7) hx hb hts iX6 tyX6 tyX6_ok nmX6 hown hK hP (hD.fst rfl) hS 0 rfl rfl 6 (by decide) (hts (.fieldLink RX6 251 "PascalRows" "hasImage" "Z") (List.mem_of_getElem? (i := 3) rfl)) (fun _ h9 => h9) rfl (by decide +kernel) rfl rfl (Nat.le_of_ble_eq_true rfl) dX6_image_13 (fun H locs hP _ hS => ?_)
  have hP : va_P (dC, dI) vwCl [(a_o, .inr (5, [.ref a_o_triangle, .ref a_o_now, .ref a_o_kept, .ref a_o_trial, .ref a_o_reader, .ref a_o_tapes, .int (1 : Int32)])), (a_o_now, .inr (2, [.ref a_o_triangle, .ref a_o_now_marks, .ref a_o_now_seen, .ref a_o_now_events, .ref a_o_now_book, .int o_now_p, .int o_now_e, .int o_now_modulus, .int o_now_windowRow, .int o_now_windowPlace])), (a_o_now_marks, .inr (0, [.ref a_o_now_marks_numbers, .int o_now_marks_size])), (a_o_now_marks_numbers, .inl (cI, 18, .inl o_now_marks_numbers)), (a_o_now_seen, .inr (0, [.ref a_o_now_seen_numbers, .int o_now_seen_size])), (a_o_now_seen_numbers, .inl (cI, 12, .inl o_now_seen_numbers)), (a_o_now_events, .inr (0, [.ref a_o_now_events_numbers, .int o_now_events_size])), (a_o_now_events_numbers, .inl (cI, 24, .inl o_now_events_numbers)), (a_o_now_book, .inr (0, [.ref a_o_now_book_numbers, .int o_now_book_size])), (a_o_now_book_numbers, .inl (cI, 24, .inl o_now_book_numbers)), (a_o_kept, .inr (2, [.ref a_o_triangle, .ref a_o_kept_marks, .ref a_o_kept_seen, .ref a_o_kept_events, .ref a_o_kept_book, .int u_1.2.2.2.2.2.2.2.2.1, .int u_1.2.2.2.2.2.2.2.2.2.1, .int u_1.2.2.2.2.2.2.2.2.2.2.1, .int u_1.2.2.2.2.2.2.2.2.2.2.2.1, .int u_1.2.2.2.2.2.2.2.2.2.2.2.2])), (a_o_kept_marks, .inr (0, [.ref a_o_kept_marks_numbers, .int u_1.2.1])), (a_o_kept_marks_numbers, .inl (cI, 18, .inl u_1.1)), (a_o_kept_seen, .inr (0, [.ref a_o_kept_seen_numbers, .int u_1.2.2.2.1])), (a_o_kept_seen_numbers, .inl (cI, 12, .inl u_1.2.2.1)), (a_o_kept_events, .inr (0, [.ref a_o_kept_events_numbers, .int u_1.2.2.2.2.2.1])), (a_o_kept_events_numbers, .inl (cI, 24, .inl u_1.2.2.2.2.1)), (a_o_kept_book, .inr (0, [.ref a_o_kept_book_numbers, .int u_1.2.2.2.2.2.2.2.1])), (a_o_kept_book_numbers, .inl (cI, 24, .inl u_1.2.2.2.2.2.2.1))] H := hP
  refine lv_aload_n hx hb dX6_image_16 rfl (lv_at hl 0 rfl) ?_
  refine va_get (D := (dC, dI)) (ci := 5) (v := .ref a_o_now) (C := RX6) (T := TX6) (N := 7) hx hb hts iX6 hown hK hP 0 rfl rfl 1 (by decide) (hts (.fieldLink RX6 23 "PascalRows" "now" "LPascalRows$Setup;") (List.mem_of_getElem? (i := 2) rfl)) (fun _ h9 => h9) rfl dX6_image_17 ?_
  refine va_getN (host := "PascalRows") (D := (dC, dI)) (ci := 2) (v := .int o_now_modulus) (C := RX3) (T := TX3) (N := 10) hx hb hts iX3 hown hK hP 1 rfl rfl 7 (by decide) (hE.nest 0 rfl rfl) (fun _ h9 => h9) rfl dX6_image_20 ?_
  obtain rfl := Option.some.inj hr
  exact hret H locs _ hP hS (fun Qc free hq hf => W.iret hx hb hrt hq hf dX6_image_23 hlocks)
/-! X6_undo -/
def rmX6_undo : Room := { frames := 3, cells := 0, slots := 0, locals := 102 }
set_option maxHeartbeats 4000000 in
set_option maxRecDepth 100000 in
theorem k_X6_undo (l : Launch) (dC : Nat → ClassId) (dI : Nat → Nat → Nat) (cI cJ : ClassId) (a_o : Nat) (a_o_triangle : Nat) (a_o_now : Nat) (a_o_kept : Nat) (a_o_trial : Nat) (a_o_reader : Nat) (a_o_tapes : Nat) (a_o_now_marks : Nat) (a_o_now_seen : Nat) (a_o_now_events : Nat) (a_o_now_book : Nat) (a_o_now_marks_numbers : Nat) (a_o_now_seen_numbers : Nat) (a_o_now_events_numbers : Nat) (a_o_now_book_numbers : Nat) (a_o_kept_marks : Nat) (a_o_kept_seen : Nat) (a_o_kept_events : Nat) (a_o_kept_book : Nat) (a_o_kept_marks_numbers : Nat) (a_o_kept_seen_numbers : Nat) (a_o_kept_events_numbers : Nat) (a_o_kept_book_numbers : Nat) (o_hasImage : Int32) (o_now_p : Int32) (o_now_e : Int32) (o_now_modulus : Int32) (o_now_windowRow : Int32) (o_now_windowPlace : Int32) (o_now_marks_size : Int32) (o_now_marks_numbers : Nat → Int32) (o_now_seen_size : Int32) (o_now_seen_numbers : Nat → Int32) (o_now_events_size : Int32) (o_now_events_numbers : Nat → Int32) (o_now_book_size : Int32) (o_now_book_numbers : Nat → Int32) (o_kept_p : Int32) (o_kept_e : Int32) (o_kept_modulus : Int32) (o_kept_windowRow : Int32) (o_kept_windowPlace : Int32) (o_kept_marks_size : Int32) (o_kept_marks_numbers : Nat → Int32) (o_kept_seen_size : Int32) (o_kept_seen_numbers : Nat → Int32) (o_kept_events_size : Int32) (o_kept_events_numbers : Nat → Int32) (o_kept_book_size : Int32) (o_kept_book_numbers : Nat → Int32) (sz : Nat) (r : Int32 × (Nat → Int32) × Int32 × (Nat → Int32) × Int32 × (Nat → Int32) × Int32 × (Nat → Int32) × Int32 × Int32 × Int32 × Int32 × Int32 × Int32) (hr : f_X6_undo o_now_marks_numbers o_now_marks_size o_now_seen_numbers o_now_seen_size o_now_events_numbers o_now_events_size o_now_book_numbers o_now_book_size o_now_p o_now_e o_now_modulus o_now_windowRow o_now_windowPlace o_kept_marks_numbers o_kept_marks_size o_kept_seen_numbers o_kept_seen_size o_kept_events_numbers o_kept_events_size o_kept_book_numbers o_kept_book_size o_kept_p o_kept_e o_kept_windowRow o_kept_windowPlace o_hasImage = some r) : Met l yX6_undo wsX6_undo rmX6_undo (va_Pc [.ref a_o] (pM (dC, dI) cI cJ [(a_o, .inr (5, [.ref a_o_triangle, .ref a_o_now, .ref a_o_kept, .ref a_o_trial, .ref a_o_reader, .ref a_o_tapes, .int o_hasImage])), (a_o_now, .inr (2, [.ref a_o_triangle, .ref a_o_now_marks, .ref a_o_now_seen, .ref a_o_now_events, .ref a_o_now_book, .int o_now_p, .int o_now_e, .int o_now_modulus, .int o_now_windowRow, .int o_now_windowPlace])), (a_o_now_marks, .inr (0, [.ref a_o_now_marks_numbers, .int o_now_marks_size])), (a_o_now_marks_numbers, .inl (cI, 18, .inl o_now_marks_numbers)), (a_o_now_seen, .inr (0, [.ref a_o_now_seen_numbers, .int o_now_seen_size])), (a_o_now_seen_numbers, .inl (cI, 12, .inl o_now_seen_numbers)), (a_o_now_events, .inr (0, [.ref a_o_now_events_numbers, .int o_now_events_size])), (a_o_now_events_numbers, .inl (cI, 24, .inl o_now_events_numbers)), (a_o_now_book, .inr (0, [.ref a_o_now_book_numbers, .int o_now_book_size])), (a_o_now_book_numbers, .inl (cI, 24, .inl o_now_book_numbers)), (a_o_kept, .inr (2, [.ref a_o_triangle, .ref a_o_kept_marks, .ref a_o_kept_seen, .ref a_o_kept_events, .ref a_o_kept_book, .int o_kept_p, .int o_kept_e, .int o_kept_modulus, .int o_kept_windowRow, .int o_kept_windowPlace])), (a_o_kept_marks, .inr (0, [.ref a_o_kept_marks_numbers, .int o_kept_marks_size])), (a_o_kept_marks_numbers, .inl (cI, 18, .inl o_kept_marks_numbers)), (a_o_kept_seen, .inr (0, [.ref a_o_kept_seen_numbers, .int o_kept_seen_size])), (a_o_kept_seen_numbers, .inl (cI, 12, .inl o_kept_seen_numbers)), (a_o_kept_events, .inr (0, [.ref a_o_kept_events_numbers, .int o_kept_events_size])), (a_o_kept_events_numbers, .inl (cI, 24, .inl o_kept_events_numbers)), (a_o_kept_book, .inr (0, [.ref a_o_kept_book_numbers, .int o_kept_book_size])), (a_o_kept_book_numbers, .inl (cI, 24, .inl o_kept_book_numbers))] sz)) (qM (some (.int r.1)) (dC, dI) [(a_o, .inr (5, [.ref a_o_triangle, .ref a_o_now, .ref a_o_kept, .ref a_o_trial, .ref a_o_reader, .ref a_o_tapes, .int o_hasImage])), (a_o_now, .inr (2, [.ref a_o_triangle, .ref a_o_now_marks, .ref a_o_now_seen, .ref a_o_now_events, .ref a_o_now_book, .int r.2.2.2.2.2.2.2.2.2.1, .int r.2.2.2.2.2.2.2.2.2.2.1, .int r.2.2.2.2.2.2.2.2.2.2.2.1, .int r.2.2.2.2.2.2.2.2.2.2.2.2.1, .int r.2.2.2.2.2.2.2.2.2.2.2.2.2])), (a_o_now_marks, .inr (0, [.ref a_o_now_marks_numbers, .int r.2.2.1])), (a_o_now_marks_numbers, .inl (cI, 18, .inl r.2.1)), (a_o_now_seen, .inr (0, [.ref a_o_now_seen_numbers, .int r.2.2.2.2.1])), (a_o_now_seen_numbers, .inl (cI, 12, .inl r.2.2.2.1)), (a_o_now_events, .inr (0, [.ref a_o_now_events_numbers, .int r.2.2.2.2.2.2.1])), (a_o_now_events_numbers, .inl (cI, 24, .inl r.2.2.2.2.2.1)), (a_o_now_book, .inr (0, [.ref a_o_now_book_numbers, .int r.2.2.2.2.2.2.2.2.1])), (a_o_now_book_numbers, .inl (cI, 24, .inl r.2.2.2.2.2.2.2.1)), (a_o_kept, .inr (2, [.ref a_o_triangle, .ref a_o_kept_marks, .ref a_o_kept_seen, .ref a_o_kept_events, .ref a_o_kept_book, .int o_kept_p, .int o_kept_e, .int o_kept_modulus, .int o_kept_windowRow, .int o_kept_windowPlace])), (a_o_kept_marks, .inr (0, [.ref a_o_kept_marks_numbers, .int o_kept_marks_size])), (a_o_kept_marks_numbers, .inl (cI, 18, .inl o_kept_marks_numbers)), (a_o_kept_seen, .inr (0, [.ref a_o_kept_seen_numbers, .int o_kept_seen_size])), (a_o_kept_seen_numbers, .inl (cI, 12, .inl o_kept_seen_numbers)), (a_o_kept_events, .inr (0, [.ref a_o_kept_events_numbers, .int o_kept_events_size])), (a_o_kept_events_numbers, .inl (cI, 24, .inl o_kept_events_numbers)), (a_o_kept_book, .inr (0, [.ref a_o_kept_book_numbers, .int o_kept_book_size])), (a_o_kept_book_numbers, .inl (cI, 24, .inl o_kept_book_numbers))] (va_A [(a_o, .inr (5, [.ref a_o_triangle, .ref a_o_now, .ref a_o_kept, .ref a_o_trial, .ref a_o_reader, .ref a_o_tapes, .int o_hasImage])), (a_o_now, .inr (2, [.ref a_o_triangle, .ref a_o_now_marks, .ref a_o_now_seen, .ref a_o_now_events, .ref a_o_now_book, .int o_now_p, .int o_now_e, .int o_now_modulus, .int o_now_windowRow, .int o_now_windowPlace])), (a_o_now_marks, .inr (0, [.ref a_o_now_marks_numbers, .int o_now_marks_size])), (a_o_now_marks_numbers, .inl (cI, 18, .inl o_now_marks_numbers)), (a_o_now_seen, .inr (0, [.ref a_o_now_seen_numbers, .int o_now_seen_size])), (a_o_now_seen_numbers, .inl (cI, 12, .inl o_now_seen_numbers)), (a_o_now_events, .inr (0, [.ref a_o_now_events_numbers, .int o_now_events_size])), (a_o_now_events_numbers, .inl (cI, 24, .inl o_now_events_numbers)), (a_o_now_book, .inr (0, [.ref a_o_now_book_numbers, .int o_now_book_size])), (a_o_now_book_numbers, .inl (cI, 24, .inl o_now_book_numbers)), (a_o_kept, .inr (2, [.ref a_o_triangle, .ref a_o_kept_marks, .ref a_o_kept_seen, .ref a_o_kept_events, .ref a_o_kept_book, .int o_kept_p, .int o_kept_e, .int o_kept_modulus, .int o_kept_windowRow, .int o_kept_windowPlace])), (a_o_kept_marks, .inr (0, [.ref a_o_kept_marks_numbers, .int o_kept_marks_size])), (a_o_kept_marks_numbers, .inl (cI, 18, .inl o_kept_marks_numbers)), (a_o_kept_seen, .inr (0, [.ref a_o_kept_seen_numbers, .int o_kept_seen_size])), (a_o_kept_seen_numbers, .inl (cI, 12, .inl o_kept_seen_numbers)), (a_o_kept_events, .inr (0, [.ref a_o_kept_events_numbers, .int o_kept_events_size])), (a_o_kept_events_numbers, .inl (cI, 24, .inl o_kept_events_numbers)), (a_o_kept_book, .inr (0, [.ref a_o_kept_book_numbers, .int o_kept_book_size])), (a_o_kept_book_numbers, .inl (cI, 24, .inl o_kept_book_numbers))] sz)) 0 0 (va_A [(a_o, .inr (5, [.ref a_o_triangle, .ref a_o_now, .ref a_o_kept, .ref a_o_trial, .ref a_o_reader, .ref a_o_tapes, .int o_hasImage])), (a_o_now, .inr (2, [.ref a_o_triangle, .ref a_o_now_marks, .ref a_o_now_seen, .ref a_o_now_events, .ref a_o_now_book, .int o_now_p, .int o_now_e, .int o_now_modulus, .int o_now_windowRow, .int o_now_windowPlace])), (a_o_now_marks, .inr (0, [.ref a_o_now_marks_numbers, .int o_now_marks_size])), (a_o_now_marks_numbers, .inl (cI, 18, .inl o_now_marks_numbers)), (a_o_now_seen, .inr (0, [.ref a_o_now_seen_numbers, .int o_now_seen_size])), (a_o_now_seen_numbers, .inl (cI, 12, .inl o_now_seen_numbers)), (a_o_now_events, .inr (0, [.ref a_o_now_events_numbers, .int o_now_events_size])), (a_o_now_events_numbers, .inl (cI, 24, .inl o_now_events_numbers)), (a_o_now_book, .inr (0, [.ref a_o_now_book_numbers, .int o_now_book_size])), (a_o_now_book_numbers, .inl (cI, 24, .inl o_now_book_numbers)), (a_o_kept, .inr (2, [.ref a_o_triangle, .ref a_o_kept_marks, .ref a_o_kept_seen, .ref a_o_kept_events, .ref a_o_kept_book, .int o_kept_p, .int o_kept_e, .int o_kept_modulus, .int o_kept_windowRow, .int o_kept_windowPlace])), (a_o_kept_marks, .inr (0, [.ref a_o_kept_marks_numbers, .int o_kept_marks_size])), (a_o_kept_marks_numbers, .inl (cI, 18, .inl o_kept_marks_numbers)), (a_o_kept_seen, .inr (0, [.ref a_o_kept_seen_numbers, .int o_kept_seen_size])), (a_o_kept_seen_numbers, .inl (cI, 12, .inl o_kept_seen_numbers)), (a_o_kept_events, .inr (0, [.ref a_o_kept_events_numbers, .int o_kept_events_size])), (a_o_kept_events_numbers, .inl (cI, 24, .inl o_kept_events_numbers)), (a_o_kept_book, .inr (0, [.ref a_o_kept_book_numbers, .int o_kept_book_size])), (a_o_kept_book_numbers, .inl (cI, 24, .inl o_kept_book_numbers))] sz) := by
  refine mu_of (cc := cX6_undo) (maxL := 1) (by decide) rfl (Nat.le_of_ble_eq_true rfl) ?_
  intro p e s m args below meth c Q ls A hx hb hml hown hts hE hP hD hA hrt hlocks hret hl
  have hK := hE.1
  have hS : va_S A s.heap s.heap [] := va_S.rf
  have hl : lv_has ls 1 [(0, .ref a_o)] := hl
  unfold f_X6_undo at hr
  obtain ⟨H, hHe⟩ : ∃ H, H = s.heap := ⟨_, rfl⟩
  obtain ⟨locs, hLe⟩ : ∃ locs : List Loc, locs = [] := ⟨_, rfl⟩
  suffices hgo : va_P (dC, dI) vwCl [(a_o, .inr (5, [.ref a_o_triangle, .ref a_o_now, .ref a_o_kept, .ref a_o_trial, .ref a_o_reader, .ref a_o_tapes, .int o_hasImage])), (a_o_now, .inr (2, [.ref a_o_triangle, .ref a_o_now_marks, .ref a_o_now_seen, .ref a_o_now_events, .ref a_o_now_book, .int o_now_p, .int o_now_e, .int o_now_modulus, .int o_now_windowRow, .int o_now_windowPlace])), (a_o_now_marks, .inr (0, [.ref a_o_now_marks_numbers, .int o_now_marks_size])), (a_o_now_marks_numbers, .inl (cI, 18, .inl o_now_marks_numbers)), (a_o_now_seen, .inr (0, [.ref a_o_now_seen_numbers, .int o_now_seen_size])), (a_o_now_seen_numbers, .inl (cI, 12, .inl o_now_seen_numbers)), (a_o_now_events, .inr (0, [.ref a_o_now_events_numbers, .int o_now_events_size])), (a_o_now_events_numbers, .inl (cI, 24, .inl o_now_events_numbers)), (a_o_now_book, .inr (0, [.ref a_o_now_book_numbers, .int o_now_book_size])), (a_o_now_book_numbers, .inl (cI, 24, .inl o_now_book_numbers)), (a_o_kept, .inr (2, [.ref a_o_triangle, .ref a_o_kept_marks, .ref a_o_kept_seen, .ref a_o_kept_events, .ref a_o_kept_book, .int o_kept_p, .int o_kept_e, .int o_kept_modulus, .int o_kept_windowRow, .int o_kept_windowPlace])), (a_o_kept_marks, .inr (0, [.ref a_o_kept_marks_numbers, .int o_kept_marks_size])), (a_o_kept_marks_numbers, .inl (cI, 18, .inl o_kept_marks_numbers)), (a_o_kept_seen, .inr (0, [.ref a_o_kept_seen_numbers, .int o_kept_seen_size])), (a_o_kept_seen_numbers, .inl (cI, 12, .inl o_kept_seen_numbers)), (a_o_kept_events, .inr (0, [.ref a_o_kept_events_numbers, .int o_kept_events_size])), (a_o_kept_events_numbers, .inl (cI, 24, .inl o_kept_events_numbers)), (a_o_kept_book, .inr (0, [.ref a_o_kept_book_numbers, .int o_kept_book_size])), (a_o_kept_book_numbers, .inl (cI, 24, .inl o_kept_book_numbers))] H → va_S A s.heap H locs → W p l e rmX6_undo s m args below meth c H locs 0 0 Q (F0 m 0 ls []) by
    subst hHe; subst hLe; exact hgo hP hS
  clear hP hS hHe hLe
  intro hP hS
  have iX1 : ∀ w ∈ wsX10, w ∈ wsX6_undo := memr_ (big := wsX6_undo) wsX10 [54, 55] (by decide +kernel)
  have iX3 : ∀ w ∈ wsX30, w ∈ wsX6_undo := memr_ (big := wsX6_undo) wsX30 [44, 45, 46, 47, 48, 49, 50, 51, 52, 53] (by decide +kernel)
  have iX6 : ∀ w ∈ wsX60, w ∈ wsX6_undo := memr_ (big := wsX6_undo) wsX60 [37, 38, 39, 40, 41, 42, 43] (by decide +kernel)
  refine lv_aload_n hx hb dX6_undo_0 rfl (lv_at hl 0 rfl) ?_
  refine va_get (D := (dC, dI)) (ci := 5) (v := .int o_hasImage) (C := RX6) (T := TX6) (N := 7) hx hb hts iX6 hown hK hP 0 rfl rfl 6 (by decide) (hts (.fieldLink RX6 251 "PascalRows" "hasImage" "Z") (List.mem_of_getElem? (i := 1) rfl)) (fun _ h9 => h9) rfl dX6_undo_1 ?_
  refine lv_if_ne (tgt := 10) hx hb dX6_undo_4 (by decide) (fun c_1 => ?_) (fun c_1 => ?_)
  · have hr := ite_n hr c_1
    refine lv_aload_n hx hb dX6_undo_10 rfl (lv_at hl 0 rfl) ?_
    refine va_get (D := (dC, dI)) (ci := 5) (v := .ref a_o_now) (C := RX6) (T := TX6) (N := 7) hx hb hts iX6 hown hK hP 0 rfl rfl 1 (by decide) (hts (.fieldLink RX6 23 "PascalRows" "now" "LPascalRows$Setup;") (List.mem_of_getElem? (i := 2) rfl)) (fun _ h9 => h9) rfl dX6_undo_11 ?_
    refine lv_aload_n hx hb dX6_undo_14 rfl (lv_at hl 0 rfl) ?_
    refine va_get (D := (dC, dI)) (ci := 5) (v := .ref a_o_kept) (C := RX6) (T := TX6) (N := 7) hx hb hts iX6 hown hK hP 0 rfl rfl 2 (by decide) (hts (.fieldLink RX6 27 "PascalRows" "kept" "LPascalRows$Setup;") (List.mem_of_getElem? (i := 3) rfl)) (fun _ h9 => h9) rfl dX6_undo_15 ?_
    obtain ⟨u_2, hu_2, hr⟩ := bd_e hr
    refine mu_V ⟨hx, hb, hml, hown, hts⟩ (k_X3_copyFrom l dC dI cI cJ a_o_now a_o_triangle a_o_now_marks a_o_now_seen a_o_now_events a_o_now_book a_o_now_marks_numbers a_o_now_seen_numbers a_o_now_events_numbers a_o_now_book_numbers a_o_kept a_o_triangle a_o_kept_marks a_o_kept_seen a_o_kept_events a_o_kept_book a_o_kept_marks_numbers a_o_kept_seen_numbers a_o_kept_events_numbers a_o_kept_book_numbers o_now_p o_now_e o_now_modulus o_now_windowRow o_now_windowPlace o_now_marks_size o_now_marks_numbers o_now_seen_size o_now_seen_numbers o_now_events_size o_now_events_numbers o_now_book_size o_now_book_numbers o_kept_p o_kept_e o_kept_modulus o_kept_windowRow o_kept_windowPlace o_kept_marks_size o_kept_marks_numbers o_kept_seen_size o_kept_seen_numbers o_kept_events_size o_kept_events_numbers o_kept_book_size o_kept_book_numbers H.size u_2 hu_2) (cwV 1 hts gX6_undo_X3_copyFrom rfl rfl rfl (by decide +kernel) ⟨Nat.le_of_ble_eq_true rfl, Nat.le_of_ble_eq_true rfl⟩) hE 1 rfl rfl rfl rfl hl.1 rfl (Nat.le_of_ble_eq_true rfl) dX6_undo_18 ⟨Nat.zero_le _, Nat.zero_le _⟩ hP (hD.fst rfl) hS hA [1, 2, 3, 4, 5, 6, 7, 8, 9, 10, 11, 12, 13, 14, 15, 16, 17, 18] [0] [0, 1, 2, 3, 4, 5, 6, 7, 8, 9, 10, 11, 12, 13, 14, 15, 16, 17, 18] rfl rfl (by decide) (by decide) rfl (by decide) (W1 := [(a_o, .inr (5, [.ref a_o_triangle, .ref a_o_now, .ref a_o_kept, .ref a_o_trial, .ref a_o_reader, .ref a_o_tapes, .int o_hasImage])), (a_o_now, .inr (2, [.ref a_o_triangle, .ref a_o_now_marks, .ref a_o_now_seen, .ref a_o_now_events, .ref a_o_now_book, .int u_2.2.2.2.2.2.2.2.2.1, .int u_2.2.2.2.2.2.2.2.2.2.1, .int u_2.2.2.2.2.2.2.2.2.2.2.1, .int u_2.2.2.2.2.2.2.2.2.2.2.2.1, .int u_2.2.2.2.2.2.2.2.2.2.2.2.2])), (a_o_now_marks, .inr (0, [.ref a_o_now_marks_numbers, .int u_2.2.1])), (a_o_now_marks_numbers, .inl (cI, 18, .inl u_2.1)), (a_o_now_seen, .inr (0, [.ref a_o_now_seen_numbers, .int u_2.2.2.2.1])), (a_o_now_seen_numbers, .inl (cI, 12, .inl u_2.2.2.1)), (a_o_now_events, .inr (0, [.ref a_o_now_events_numbers, .int u_2.2.2.2.2.2.1])), (a_o_now_events_numbers, .inl (cI, 24, .inl u_2.2.2.2.2.1)), (a_o_now_book, .inr (0, [.ref a_o_now_book_numbers, .int u_2.2.2.2.2.2.2.2.1])), (a_o_now_book_numbers, .inl (cI, 24, .inl u_2.2.2.2.2.2.2.1)), (a_o_kept, .inr (2, [.ref a_o_triangle, .ref a_o_kept_marks, .ref a_o_kept_seen, .ref a_o_kept_events, .ref a_o_kept_book, .int o_kept_p, .int o_kept_e, .int o_kept_modulus, .int o_kept_windowRow, .int o_kept_windowPlace])), (a_o_kept_marks, .inr (0, [.ref a_o_kept_marks_numbers, .int o_kept_marks_size])), (a_o_kept_marks_numbers, .inl (cI, 18, .inl o_kept_marks_numbers)), (a_o_kept_seen, .inr (0, [.ref a_o_kept_seen_numbers, .int o_kept_seen_size])), (a_o_kept_seen_numbers, .inl (cI, 12, .inl o_kept_seen_numbers)), (a_o_kept_events, .inr (0, [.ref a_o_kept_events_numbers, .int o_kept_events_size])), (a_o_kept_events_numbers, .inl (cI, 24, .inl o_kept_events_numbers)), (a_o_kept_book, .inr (0, [.ref a_o_kept_book_numbers, .int o_kept_book_size])), (a_o_kept_book_numbers, .inl (cI, 24, .inl o_kept_book_numbers))]) rfl (fun H locs hP hS => W.eq (g2 := F0 m 21 ls []) rfl ?_)
    refine lv_aload_n hx hb dX6_undo_21 rfl (lv_at hl 0 rfl) ?_
    refine va_get (D := (dC, dI)) (ci := 5) (v := .ref a_o_now) (C := RX6) (T := TX6) (N := 7) hx hb hts iX6 hown hK hP 0 rfl rfl 1 (by decide) (hts (.fieldLink RX6 23 "PascalRows" "now" "LPascalRows$Setup;") (List.mem_of_getElem? (i := 2) rfl)) (fun _ h9 => h9) rfl dX6_undo_22 ?_
    refine va_getN (host := "PascalRows") (D := (dC, dI)) (ci := 2) (v := .int u_2.2.2.2.2.2.2.2.2.2.2.1) (C := RX3) (T := TX3) (N := 10) hx hb hts iX3 hown hK hP 1 rfl rfl 7 (by decide) (hE.nest 0 rfl rfl) (fun _ h9 => h9) rfl dX6_undo_25 ?_
    obtain rfl := Option.some.inj hr
    exact hret H locs _ hP hS (fun Qc free hq hf => W.iret hx hb hrt hq hf dX6_undo_28 hlocks)
  · have hr := ite_p hr c_1
    refine lv_bipush (v := (-3 : Int32)) hx hb dX6_undo_7 (by decide) ?_
    obtain rfl := Option.some.inj hr
    exact hret H locs _ hP hS (fun Qc free hq hf => W.iret hx hb hrt hq hf dX6_undo_9 hlocks)
/-! X6_count -/
def rmX6_count : Room := { frames := 0, cells := 0, slots := 0, locals := 0 }
set_option maxHeartbeats 4000000 in
set_option maxRecDepth 100000 in
theorem k_X6_count (l : Launch) (dC : Nat → ClassId) (dI : Nat → Nat → Nat) (cI cJ : ClassId) (a_o : Nat) (a_o_triangle : Nat) (a_o_now : Nat) (a_o_kept : Nat) (a_o_trial : Nat) (a_o_reader : Nat) (a_o_tapes : Nat) (a_o_now_marks : Nat) (a_o_now_seen : Nat) (a_o_now_events : Nat) (a_o_now_book : Nat) (a_o_now_seen_numbers : Nat) (a_o_now_events_numbers : Nat) (a_o_now_book_numbers : Nat) (a_o_reader_text : Nat) (a_o_reader_clauses : Nat) (p0 : Int32) (o_hasImage : Int32) (o_now_p : Int32) (o_now_e : Int32) (o_now_modulus : Int32) (o_now_windowRow : Int32) (o_now_windowPlace : Int32) (o_now_seen_size : Int32) (o_now_events_size : Int32) (o_now_book_size : Int32) (o_reader_length : Int32) (o_reader_next : Int32) (r : Int32) (hr : f_X6_count p0 o_now_seen_size o_now_events_size o_now_book_size o_reader_length = some r) : Met l yX6_count wsX6_count rmX6_count (va_Pc [.ref a_o, .int p0] (pE (dC, dI) cI cJ [(a_o, .inr (5, [.ref a_o_triangle, .ref a_o_now, .ref a_o_kept, .ref a_o_trial, .ref a_o_reader, .ref a_o_tapes, .int o_hasImage])), (a_o_now, .inr (2, [.ref a_o_triangle, .ref a_o_now_marks, .ref a_o_now_seen, .ref a_o_now_events, .ref a_o_now_book, .int o_now_p, .int o_now_e, .int o_now_modulus, .int o_now_windowRow, .int o_now_windowPlace])), (a_o_now_seen, .inr (0, [.ref a_o_now_seen_numbers, .int o_now_seen_size])), (a_o_now_events, .inr (0, [.ref a_o_now_events_numbers, .int o_now_events_size])), (a_o_now_book, .inr (0, [.ref a_o_now_book_numbers, .int o_now_book_size])), (a_o_reader, .inr (1, [.ref a_o_reader_text, .ref a_o_reader_clauses, .int o_reader_length, .int o_reader_next]))])) (rq (.int r)) 0 0 nofree := by
  refine ro_of_i (cc := cX6_count) (maxL := 2) (by decide) rfl (Nat.le_of_ble_eq_true rfl) ?_
  intro p e s m args below meth c Q ls hx hb hml hown hts hE hP hret hl
  have hK := hE.1
  have hl : lv_has ls 2 [(0, .ref a_o), (1, .int p0)] := hl
  unfold f_X6_count at hr
  have iX1 : ∀ w ∈ wsX10, w ∈ wsX6_count := memr_ (big := wsX6_count) wsX10 [20, 21] (by decide +kernel)
  have iX2 : ∀ w ∈ wsX20, w ∈ wsX6_count := memr_ (big := wsX6_count) wsX20 [22, 23, 24, 25] (by decide +kernel)
  have iX3 : ∀ w ∈ wsX30, w ∈ wsX6_count := memr_ (big := wsX6_count) wsX30 [10, 11, 12, 13, 14, 15, 16, 17, 18, 19] (by decide +kernel)
  have iX6 : ∀ w ∈ wsX60, w ∈ wsX6_count := memr_ (big := wsX6_count) wsX60 [3, 4, 5, 6, 7, 8, 9] (by decide +kernel)
  refine lv_iload_n hx hb dX6_count_0 rfl (lv_at hl 1 rfl) ?_
  by_cases c_1 : p0 = (0 : Int32)
  · have hr := ite_p hr c_1
    refine W.eq (g2 := F0 m 1 ls (.int (0 : Int32) :: [])) (congrArg (fun z => F0 m 1 ls (.int z :: [])) c_1) ?_
    refine lv_tableIn (tgt := 32) hx hb dX6_count_1 (by decide) (by decide) (by first | rfl | decide) (by decide) ?_
    refine lv_aload_n hx hb dX6_count_32 rfl (lv_at hl 0 rfl) ?_
    refine va_get (D := (dC, dI)) (ci := 5) (v := .ref a_o_now) (C := RX6) (T := TX6) (N := 7) hx hb hts iX6 hown hK hP 0 rfl rfl 1 (by decide) (hts (.fieldLink RX6 23 "PascalRows" "now" "LPascalRows$Setup;") (List.mem_of_getElem? (i := 1) rfl)) (fun _ h9 => h9) rfl dX6_count_33 ?_
    refine va_getN (host := "PascalRows") (D := (dC, dI)) (ci := 2) (v := .ref a_o_now_seen) (C := RX3) (T := TX3) (N := 10) hx hb hts iX3 hown hK hP 1 rfl rfl 2 (by decide) (hE.nest 1 rfl rfl) (fun _ h9 => h9) rfl dX6_count_36 ?_
    refine va_getN (host := "PascalRows") (D := (dC, dI)) (ci := 0) (v := .int o_now_seen_size) (C := RX1) (T := TX1) (N := 2) hx hb hts iX1 hown hK hP 2 rfl rfl 1 (by decide) (hE.nest 8 rfl rfl) (fun _ h9 => h9) rfl dX6_count_39 ?_
    exact hret 42 ls _ dX6_count_42 (Option.some.inj hr)
  have hr := ite_n hr c_1
  by_cases c_2 : p0 = (1 : Int32)
  · have hr := ite_p hr c_2
    refine W.eq (g2 := F0 m 1 ls (.int (1 : Int32) :: [])) (congrArg (fun z => F0 m 1 ls (.int z :: [])) c_2) ?_
    refine lv_tableIn (tgt := 43) hx hb dX6_count_1 (by decide) (by decide) (by first | rfl | decide) (by decide) ?_
    refine lv_aload_n hx hb dX6_count_43 rfl (lv_at hl 0 rfl) ?_
    refine va_get (D := (dC, dI)) (ci := 5) (v := .ref a_o_now) (C := RX6) (T := TX6) (N := 7) hx hb hts iX6 hown hK hP 0 rfl rfl 1 (by decide) (hts (.fieldLink RX6 23 "PascalRows" "now" "LPascalRows$Setup;") (List.mem_of_getElem? (i := 1) rfl)) (fun _ h9 => h9) rfl dX6_count_44 ?_
    refine va_getN (host := "PascalRows") (D := (dC, dI)) (ci := 2) (v := .ref a_o_now_events) (C := RX3) (T := TX3) (N := 10) hx hb hts iX3 hown hK hP 1 rfl rfl 3 (by decide) (hE.nest 2 rfl rfl) (fun _ h9 => h9) rfl dX6_count_47 ?_
    refine va_getN (host := "PascalRows") (D := (dC, dI)) (ci := 0) (v := .int o_now_events_size) (C := RX1) (T := TX1) (N := 2) hx hb hts iX1 hown hK hP 3 rfl rfl 1 (by decide) (hE.nest 8 rfl rfl) (fun _ h9 => h9) rfl dX6_count_50 ?_
    exact hret 53 ls _ dX6_count_53 (Option.some.inj hr)
  have hr := ite_n hr c_2
  by_cases c_3 : p0 = (2 : Int32)
  · have hr := ite_p hr c_3
    refine W.eq (g2 := F0 m 1 ls (.int (2 : Int32) :: [])) (congrArg (fun z => F0 m 1 ls (.int z :: [])) c_3) ?_
    refine lv_tableIn (tgt := 54) hx hb dX6_count_1 (by decide) (by decide) (by first | rfl | decide) (by decide) ?_
    refine lv_aload_n hx hb dX6_count_54 rfl (lv_at hl 0 rfl) ?_
    refine va_get (D := (dC, dI)) (ci := 5) (v := .ref a_o_now) (C := RX6) (T := TX6) (N := 7) hx hb hts iX6 hown hK hP 0 rfl rfl 1 (by decide) (hts (.fieldLink RX6 23 "PascalRows" "now" "LPascalRows$Setup;") (List.mem_of_getElem? (i := 1) rfl)) (fun _ h9 => h9) rfl dX6_count_55 ?_
    refine va_getN (host := "PascalRows") (D := (dC, dI)) (ci := 2) (v := .ref a_o_now_book) (C := RX3) (T := TX3) (N := 10) hx hb hts iX3 hown hK hP 1 rfl rfl 4 (by decide) (hE.nest 3 rfl rfl) (fun _ h9 => h9) rfl dX6_count_58 ?_
    refine va_getN (host := "PascalRows") (D := (dC, dI)) (ci := 0) (v := .int o_now_book_size) (C := RX1) (T := TX1) (N := 2) hx hb hts iX1 hown hK hP 4 rfl rfl 1 (by decide) (hE.nest 8 rfl rfl) (fun _ h9 => h9) rfl dX6_count_61 ?_
    exact hret 64 ls _ dX6_count_64 (Option.some.inj hr)
  have hr := ite_n hr c_3
  by_cases c_4 : p0 = (3 : Int32)
  · have hr := ite_p hr c_4
    refine W.eq (g2 := F0 m 1 ls (.int (3 : Int32) :: [])) (congrArg (fun z => F0 m 1 ls (.int z :: [])) c_4) ?_
    refine lv_tableIn (tgt := 65) hx hb dX6_count_1 (by decide) (by decide) (by first | rfl | decide) (by decide) ?_
    refine lv_aload_n hx hb dX6_count_65 rfl (lv_at hl 0 rfl) ?_
    refine va_get (D := (dC, dI)) (ci := 5) (v := .ref a_o_reader) (C := RX6) (T := TX6) (N := 7) hx hb hts iX6 hown hK hP 0 rfl rfl 4 (by decide) (hts (.fieldLink RX6 36 "PascalRows" "reader" "LPascalRows$Reader;") (List.mem_of_getElem? (i := 2) rfl)) (fun _ h9 => h9) rfl dX6_count_66 ?_
    refine va_getN (host := "PascalRows") (D := (dC, dI)) (ci := 1) (v := .int o_reader_length) (C := RX2) (T := TX2) (N := 4) hx hb hts iX2 hown hK hP 5 rfl rfl 2 (by decide) (hE.nest 4 rfl rfl) (fun _ h9 => h9) rfl dX6_count_69 ?_
    exact hret 72 ls _ dX6_count_72 (Option.some.inj hr)
  have hr := ite_n hr c_4
  refine lv_tableOut (tgt := 73) hx hb dX6_count_1 (tbl_out (fun k h1 h2 => ?_)) (by decide) ?_
  · rcases (show k = 0 ∨ k = 1 ∨ k = 2 ∨ k = 3 by omega) with rfl | rfl | rfl | rfl
    · exact i32_ne c_1 rfl
    · exact i32_ne c_2 rfl
    · exact i32_ne c_3 rfl
    · exact i32_ne c_4 rfl
  refine lv_bipush (v := (-2 : Int32)) hx hb dX6_count_73 (by decide) ?_
  exact hret 75 ls _ dX6_count_75 (Option.some.inj hr)
/-! X6_tape -/
def rmX6_tape : Room := { frames := 4, cells := 0, slots := 0, locals := 93 }
set_option maxHeartbeats 4000000 in
set_option maxRecDepth 100000 in
theorem k_X6_tape (l : Launch) (dC : Nat → ClassId) (dI : Nat → Nat → Nat) (cI cJ : ClassId) (a_o : Nat) (a_o_triangle : Nat) (a_o_now : Nat) (a_o_kept : Nat) (a_o_trial : Nat) (a_o_reader : Nat) (a_o_tapes : Nat) (a_o_tapes_sorts : Nat) (a_o_tapes_lengths : Nat) (a_o_tapes_items : Nat) (p0 : Int32) (p1 : Int32) (p2 : Int32) (o_hasImage : Int32) (o_tapes_sorts : Nat → Int32) (o_tapes_lengths : Nat → Int32) (o_tapes_items : Nat → Int64) (sz : Nat) (r : Int32 × (Nat → Int32) × (Nat → Int32) × (Nat → Int64)) (hr : f_X6_tape p0 p1 p2 o_tapes_sorts o_tapes_lengths o_tapes_items = some r) : Met l yX6_tape wsX6_tape rmX6_tape (va_Pc [.ref a_o, .int p0, .int p1, .int p2] (pM (dC, dI) cI cJ [(a_o, .inr (5, [.ref a_o_triangle, .ref a_o_now, .ref a_o_kept, .ref a_o_trial, .ref a_o_reader, .ref a_o_tapes, .int o_hasImage])), (a_o_tapes, .inr (3, [.ref a_o_tapes_sorts, .ref a_o_tapes_lengths, .ref a_o_tapes_items])), (a_o_tapes_sorts, .inl (cI, 6, .inl o_tapes_sorts)), (a_o_tapes_lengths, .inl (cI, 6, .inl o_tapes_lengths)), (a_o_tapes_items, .inl (cJ, 360, .inr (.inl o_tapes_items)))] sz)) (qM (some (.int r.1)) (dC, dI) [(a_o, .inr (5, [.ref a_o_triangle, .ref a_o_now, .ref a_o_kept, .ref a_o_trial, .ref a_o_reader, .ref a_o_tapes, .int o_hasImage])), (a_o_tapes, .inr (3, [.ref a_o_tapes_sorts, .ref a_o_tapes_lengths, .ref a_o_tapes_items])), (a_o_tapes_sorts, .inl (cI, 6, .inl r.2.1)), (a_o_tapes_lengths, .inl (cI, 6, .inl r.2.2.1)), (a_o_tapes_items, .inl (cJ, 360, .inr (.inl r.2.2.2)))] (va_A [(a_o, .inr (5, [.ref a_o_triangle, .ref a_o_now, .ref a_o_kept, .ref a_o_trial, .ref a_o_reader, .ref a_o_tapes, .int o_hasImage])), (a_o_tapes, .inr (3, [.ref a_o_tapes_sorts, .ref a_o_tapes_lengths, .ref a_o_tapes_items])), (a_o_tapes_sorts, .inl (cI, 6, .inl o_tapes_sorts)), (a_o_tapes_lengths, .inl (cI, 6, .inl o_tapes_lengths)), (a_o_tapes_items, .inl (cJ, 360, .inr (.inl o_tapes_items)))] sz)) 0 0 (va_A [(a_o, .inr (5, [.ref a_o_triangle, .ref a_o_now, .ref a_o_kept, .ref a_o_trial, .ref a_o_reader, .ref a_o_tapes, .int o_hasImage])), (a_o_tapes, .inr (3, [.ref a_o_tapes_sorts, .ref a_o_tapes_lengths, .ref a_o_tapes_items])), (a_o_tapes_sorts, .inl (cI, 6, .inl o_tapes_sorts)), (a_o_tapes_lengths, .inl (cI, 6, .inl o_tapes_lengths)), (a_o_tapes_items, .inl (cJ, 360, .inr (.inl o_tapes_items)))] sz) := by
  refine mu_of (cc := cX6_tape) (maxL := 4) (by decide) rfl (Nat.le_of_ble_eq_true rfl) ?_
  intro p e s m args below meth c Q ls A hx hb hml hown hts hE hP hD hA hrt hlocks hret hl
  have hK := hE.1
  have hS : va_S A s.heap s.heap [] := va_S.rf
  have hl : lv_has ls 4 [(0, .ref a_o), (1, .int p0), (2, .int p1), (3, .int p2)] := hl
  unfold f_X6_tape at hr
  obtain ⟨H, hHe⟩ : ∃ H, H = s.heap := ⟨_, rfl⟩
  obtain ⟨locs, hLe⟩ : ∃ locs : List Loc, locs = [] := ⟨_, rfl⟩
  suffices hgo : va_P (dC, dI) vwCl [(a_o, .inr (5, [.ref a_o_triangle, .ref a_o_now, .ref a_o_kept, .ref a_o_trial, .ref a_o_reader, .ref a_o_tapes, .int o_hasImage])), (a_o_tapes, .inr (3, [.ref a_o_tapes_sorts, .ref a_o_tapes_lengths, .ref a_o_tapes_items])), (a_o_tapes_sorts, .inl (cI, 6, .inl o_tapes_sorts)), (a_o_tapes_lengths, .inl (cI, 6, .inl o_tapes_lengths)), (a_o_tapes_items, .inl (cJ, 360, .inr (.inl o_tapes_items)))] H → va_S A s.heap H locs → W p l e rmX6_tape s m args below meth c H locs 0 0 Q (F0 m 0 ls []) by
    subst hHe; subst hLe; exact hgo hP hS
  clear hP hS hHe hLe
  intro hP hS
  have iX4 : ∀ w ∈ wsX40, w ∈ wsX6_tape := memr_ (big := wsX6_tape) wsX40 [50, 51, 52] (by decide +kernel)
  have iX6 : ∀ w ∈ wsX60, w ∈ wsX6_tape := memr_ (big := wsX6_tape) wsX60 [43, 44, 45, 46, 47, 48, 49] (by decide +kernel)
  refine lv_iload_n hx hb dX6_tape_0 rfl (lv_at hl 1 rfl) ?_
  refine ro_S ⟨hx, hb, hml, hown, hts⟩ (k_X4_isThere l dC dI cI cJ p0) (va_cwS 1 hts gX6_tape_X4_isThere rfl rfl rfl (by decide +kernel) ⟨Nat.le_of_ble_eq_true rfl, Nat.le_of_ble_eq_true rfl⟩) hE (hP.sub [] rfl) rfl hl.1 rfl (Nat.le_of_ble_eq_true rfl) dX6_tape_1 ⟨Nat.zero_le _, Nat.zero_le _⟩ ?_
  refine lv_if_ne (tgt := 9) hx hb dX6_tape_4 (by decide) (fun c_1 => ?_) (fun c_1 => ?_)
  · have hr := ite_n hr c_1
    refine lv_iload_n hx hb dX6_tape_9 rfl (lv_at hl 2 rfl) ?_
    refine lv_iconst (v := (-1 : Int32)) hx hb dX6_tape_10 (by decide) ?_
    refine lv_icmp_ne (tgt := 26) hx hb dX6_tape_11 (by decide) (fun c_2 => ?_) (fun c_2 => ?_)
    · have hr := ite_n hr c_2
      refine lv_iload_n hx hb dX6_tape_26 rfl (lv_at hl 2 rfl) ?_
      refine lv_iconst (v := (0 : Int32)) hx hb dX6_tape_27 (by decide) ?_
      refine lv_iconst (v := (4 : Int32)) hx hb dX6_tape_28 (by decide) ?_
      refine ro_S ⟨hx, hb, hml, hown, hts⟩ (k_X6_isWithin l dC dI cI cJ p1 (0 : Int32) (4 : Int32)) (va_cwS 3 hts gX6_tape_X6_isWithin rfl rfl rfl (by decide +kernel) ⟨Nat.le_of_ble_eq_true rfl, Nat.le_of_ble_eq_true rfl⟩) hE (hP.sub [] rfl) rfl hl.1 rfl (Nat.le_of_ble_eq_true rfl) dX6_tape_29 ⟨Nat.zero_le _, Nat.zero_le _⟩ ?_
      have tT_4 : (((f_X6_isWithin p1 (0 : Int32) (4 : Int32)) = 0) ∨ (¬ (p2 ≤ (60 : Int32)))) → W p l e rmX6_tape s m args below meth c H locs 0 0 Q (F0 m 41 ls []) := by
        intro hc_3
        have hr := ite_p hr hc_3
        refine lv_bipush (v := (-2 : Int32)) hx hb dX6_tape_41 (by decide) ?_
        obtain rfl := Option.some.inj hr
        exact hret H locs _ hP hS (fun Qc free hq hf => W.iret hx hb hrt hq hf dX6_tape_43 hlocks)
      have tF_5 : ¬ (((f_X6_isWithin p1 (0 : Int32) (4 : Int32)) = 0) ∨ (¬ (p2 ≤ (60 : Int32)))) → W p l e rmX6_tape s m args below meth c H locs 0 0 Q (F0 m 44 ls []) := by
        intro hc_3
        have hr := ite_n hr hc_3
        refine lv_iload_n hx hb dX6_tape_44 rfl (lv_at hl 3 rfl) ?_
        refine lv_if_ge (tgt := 51) hx hb dX6_tape_45 (by decide) (fun c_6 => ?_) (fun c_6 => ?_)
        · have hr := ite_p hr c_6
          refine lv_aload_n hx hb dX6_tape_51 rfl (lv_at hl 0 rfl) ?_
          refine va_get (D := (dC, dI)) (ci := 5) (v := .ref a_o_tapes) (C := RX6) (T := TX6) (N := 7) hx hb hts iX6 hown hK hP 0 rfl rfl 5 (by decide) (hts (.fieldLink RX6 43 "PascalRows" "tapes" "LPascalRows$Tapes;") (List.mem_of_getElem? (i := 1) rfl)) (fun _ h9 => h9) rfl dX6_tape_52 ?_
          refine lv_iload_n hx hb dX6_tape_55 rfl (lv_at hl 1 rfl) ?_
          refine lv_iload_n hx hb dX6_tape_56 rfl (lv_at hl 2 rfl) ?_
          refine lv_iload_n hx hb dX6_tape_57 rfl (lv_at hl 3 rfl) ?_
          obtain ⟨u_7, hu_7, hr⟩ := bd_e hr
          refine mu_V ⟨hx, hb, hml, hown, hts⟩ (k_X4_become l dC dI cI cJ a_o_tapes a_o_tapes_sorts a_o_tapes_lengths a_o_tapes_items p0 p1 p2 o_tapes_sorts o_tapes_lengths o_tapes_items H.size u_7 hu_7) (cwV 3 hts gX6_tape_X4_become rfl rfl rfl (by decide +kernel) ⟨Nat.le_of_ble_eq_true rfl, Nat.le_of_ble_eq_true rfl⟩) hE 1 rfl rfl rfl rfl hl.1 rfl (Nat.le_of_ble_eq_true rfl) dX6_tape_58 ⟨Nat.zero_le _, Nat.zero_le _⟩ hP (hD.fst rfl) hS hA [1, 2, 3, 4] [0] [0, 1, 2, 3, 4] rfl rfl (by decide) (by decide) rfl (by decide) (W1 := [(a_o, .inr (5, [.ref a_o_triangle, .ref a_o_now, .ref a_o_kept, .ref a_o_trial, .ref a_o_reader, .ref a_o_tapes, .int o_hasImage])), (a_o_tapes, .inr (3, [.ref a_o_tapes_sorts, .ref a_o_tapes_lengths, .ref a_o_tapes_items])), (a_o_tapes_sorts, .inl (cI, 6, .inl u_7.1)), (a_o_tapes_lengths, .inl (cI, 6, .inl u_7.2.1)), (a_o_tapes_items, .inl (cJ, 360, .inr (.inl u_7.2.2)))]) rfl (fun H locs hP hS => W.eq (g2 := F0 m 61 ls []) rfl ?_)
          refine lv_iconst (v := (1 : Int32)) hx hb dX6_tape_61 (by decide) ?_
          obtain rfl := Option.some.inj hr
          exact hret H locs _ hP hS (fun Qc free hq hf => W.iret hx hb hrt hq hf dX6_tape_62 hlocks)
        · have hr := ite_n hr c_6
          refine lv_bipush (v := (-14 : Int32)) hx hb dX6_tape_48 (by decide) ?_
          obtain rfl := Option.some.inj hr
          exact hret H locs _ hP hS (fun Qc free hq hf => W.iret hx hb hrt hq hf dX6_tape_50 hlocks)
      refine lv_if_eq (tgt := 41) hx hb dX6_tape_32 (by decide) (fun c_8 => ?_) (fun c_8 => ?_)
      · exact tT_4 (Or.inl c_8)
      · refine lv_iload_n hx hb dX6_tape_35 rfl (lv_at hl 3 rfl) ?_
        refine lv_bipush (v := (60 : Int32)) hx hb dX6_tape_36 (by decide) ?_
        refine lv_icmp_le (tgt := 44) hx hb dX6_tape_38 (by decide) (fun c_9 => ?_) (fun c_9 => ?_)
        · exact tF_5 (fun h => h.elim c_8 (fun h => h c_9))
        · exact tT_4 (Or.inr c_9)
    · have hr := ite_p hr c_2
      refine lv_aload_n hx hb dX6_tape_14 rfl (lv_at hl 0 rfl) ?_
      refine va_get (D := (dC, dI)) (ci := 5) (v := .ref a_o_tapes) (C := RX6) (T := TX6) (N := 7) hx hb hts iX6 hown hK hP 0 rfl rfl 5 (by decide) (hts (.fieldLink RX6 43 "PascalRows" "tapes" "LPascalRows$Tapes;") (List.mem_of_getElem? (i := 1) rfl)) (fun _ h9 => h9) rfl dX6_tape_15 ?_
      refine lv_iload_n hx hb dX6_tape_18 rfl (lv_at hl 1 rfl) ?_
      refine lv_iload_n hx hb dX6_tape_19 rfl (lv_at hl 2 rfl) ?_
      refine lv_iconst (v := (0 : Int32)) hx hb dX6_tape_20 (by decide) ?_
      obtain ⟨u_10, hu_10, hr⟩ := bd_e hr
      refine mu_V ⟨hx, hb, hml, hown, hts⟩ (k_X4_become l dC dI cI cJ a_o_tapes a_o_tapes_sorts a_o_tapes_lengths a_o_tapes_items p0 p1 (0 : Int32) o_tapes_sorts o_tapes_lengths o_tapes_items H.size u_10 hu_10) (cwV 3 hts gX6_tape_X4_become rfl rfl rfl (by decide +kernel) ⟨Nat.le_of_ble_eq_true rfl, Nat.le_of_ble_eq_true rfl⟩) hE 1 rfl rfl rfl rfl hl.1 rfl (Nat.le_of_ble_eq_true rfl) dX6_tape_21 ⟨Nat.zero_le _, Nat.zero_le _⟩ hP (hD.fst rfl) hS hA [1, 2, 3, 4] [0] [0, 1, 2, 3, 4] rfl rfl (by decide) (by decide) rfl (by decide) (W1 := [(a_o, .inr (5, [.ref a_o_triangle, .ref a_o_now, .ref a_o_kept, .ref a_o_trial, .ref a_o_reader, .ref a_o_tapes, .int o_hasImage])), (a_o_tapes, .inr (3, [.ref a_o_tapes_sorts, .ref a_o_tapes_lengths, .ref a_o_tapes_items])), (a_o_tapes_sorts, .inl (cI, 6, .inl u_10.1)), (a_o_tapes_lengths, .inl (cI, 6, .inl u_10.2.1)), (a_o_tapes_items, .inl (cJ, 360, .inr (.inl u_10.2.2)))]) rfl (fun H locs hP hS => W.eq (g2 := F0 m 24 ls []) rfl ?_)
      refine lv_iconst (v := (1 : Int32)) hx hb dX6_tape_24 (by decide) ?_
      obtain rfl := Option.some.inj hr
      exact hret H locs _ hP hS (fun Qc free hq hf => W.iret hx hb hrt hq hf dX6_tape_25 hlocks)
  · have hr := ite_p hr c_1
    refine lv_iconst (v := (-1 : Int32)) hx hb dX6_tape_7 (by decide) ?_
    obtain rfl := Option.some.inj hr
    exact hret H locs _ hP hS (fun Qc free hq hf => W.iret hx hb hrt hq hf dX6_tape_8 hlocks)
/-! X6_item -/
def rmX6_item : Room := { frames := 3, cells := 0, slots := 0, locals := 69 }
set_option maxHeartbeats 4000000 in
set_option maxRecDepth 100000 in
theorem k_X6_item (l : Launch) (dC : Nat → ClassId) (dI : Nat → Nat → Nat) (cI cJ : ClassId) (a_o : Nat) (a_o_triangle : Nat) (a_o_now : Nat) (a_o_kept : Nat) (a_o_trial : Nat) (a_o_reader : Nat) (a_o_tapes : Nat) (a_o_tapes_sorts : Nat) (a_o_tapes_lengths : Nat) (a_o_tapes_items : Nat) (p0 : Int32) (p1 : Int32) (p2 : Int64) (o_hasImage : Int32) (o_tapes_sorts : Nat → Int32) (o_tapes_lengths : Nat → Int32) (o_tapes_items : Nat → Int64) (sz : Nat) (r : Int32 × (Nat → Int64)) (hr : f_X6_item p0 p1 p2 o_tapes_sorts o_tapes_lengths o_tapes_items = some r) : Met l yX6_item wsX6_item rmX6_item (va_Pc [.ref a_o, .int p0, .int p1, .long p2] (pM (dC, dI) cI cJ [(a_o, .inr (5, [.ref a_o_triangle, .ref a_o_now, .ref a_o_kept, .ref a_o_trial, .ref a_o_reader, .ref a_o_tapes, .int o_hasImage])), (a_o_tapes, .inr (3, [.ref a_o_tapes_sorts, .ref a_o_tapes_lengths, .ref a_o_tapes_items])), (a_o_tapes_sorts, .inl (cI, 6, .inl o_tapes_sorts)), (a_o_tapes_lengths, .inl (cI, 6, .inl o_tapes_lengths)), (a_o_tapes_items, .inl (cJ, 360, .inr (.inl o_tapes_items)))] sz)) (qM (some (.int r.1)) (dC, dI) [(a_o, .inr (5, [.ref a_o_triangle, .ref a_o_now, .ref a_o_kept, .ref a_o_trial, .ref a_o_reader, .ref a_o_tapes, .int o_hasImage])), (a_o_tapes, .inr (3, [.ref a_o_tapes_sorts, .ref a_o_tapes_lengths, .ref a_o_tapes_items])), (a_o_tapes_sorts, .inl (cI, 6, .inl o_tapes_sorts)), (a_o_tapes_lengths, .inl (cI, 6, .inl o_tapes_lengths)), (a_o_tapes_items, .inl (cJ, 360, .inr (.inl r.2)))] (va_A [(a_o, .inr (5, [.ref a_o_triangle, .ref a_o_now, .ref a_o_kept, .ref a_o_trial, .ref a_o_reader, .ref a_o_tapes, .int o_hasImage])), (a_o_tapes, .inr (3, [.ref a_o_tapes_sorts, .ref a_o_tapes_lengths, .ref a_o_tapes_items])), (a_o_tapes_sorts, .inl (cI, 6, .inl o_tapes_sorts)), (a_o_tapes_lengths, .inl (cI, 6, .inl o_tapes_lengths)), (a_o_tapes_items, .inl (cJ, 360, .inr (.inl o_tapes_items)))] sz)) 0 0 (va_A [(a_o, .inr (5, [.ref a_o_triangle, .ref a_o_now, .ref a_o_kept, .ref a_o_trial, .ref a_o_reader, .ref a_o_tapes, .int o_hasImage])), (a_o_tapes, .inr (3, [.ref a_o_tapes_sorts, .ref a_o_tapes_lengths, .ref a_o_tapes_items])), (a_o_tapes_sorts, .inl (cI, 6, .inl o_tapes_sorts)), (a_o_tapes_lengths, .inl (cI, 6, .inl o_tapes_lengths)), (a_o_tapes_items, .inl (cJ, 360, .inr (.inl o_tapes_items)))] sz) := by
  refine mu_of (cc := cX6_item) (maxL := 5) (by decide) rfl (Nat.le_of_ble_eq_true rfl) ?_
  intro p e s m args below meth c Q ls A hx hb hml hown hts hE hP hD hA hrt hlocks hret hl
  have hK := hE.1
  have hS : va_S A s.heap s.heap [] := va_S.rf
  have hl : lv_has ls 5 [(0, .ref a_o), (1, .int p0), (2, .int p1), (3, .long p2)] := hl
  unfold f_X6_item at hr
  obtain ⟨H, hHe⟩ : ∃ H, H = s.heap := ⟨_, rfl⟩
  obtain ⟨locs, hLe⟩ : ∃ locs : List Loc, locs = [] := ⟨_, rfl⟩
  suffices hgo : va_P (dC, dI) vwCl [(a_o, .inr (5, [.ref a_o_triangle, .ref a_o_now, .ref a_o_kept, .ref a_o_trial, .ref a_o_reader, .ref a_o_tapes, .int o_hasImage])), (a_o_tapes, .inr (3, [.ref a_o_tapes_sorts, .ref a_o_tapes_lengths, .ref a_o_tapes_items])), (a_o_tapes_sorts, .inl (cI, 6, .inl o_tapes_sorts)), (a_o_tapes_lengths, .inl (cI, 6, .inl o_tapes_lengths)), (a_o_tapes_items, .inl (cJ, 360, .inr (.inl o_tapes_items)))] H → va_S A s.heap H locs → W p l e rmX6_item s m args below meth c H locs 0 0 Q (F0 m 0 ls []) by
    subst hHe; subst hLe; exact hgo hP hS
  clear hP hS hHe hLe
  intro hP hS
  have iX4 : ∀ w ∈ wsX40, w ∈ wsX6_item := memr_ (big := wsX6_item) wsX40 [41, 42, 43] (by decide +kernel)
  have iX6 : ∀ w ∈ wsX60, w ∈ wsX6_item := memr_ (big := wsX6_item) wsX60 [34, 35, 36, 37, 38, 39, 40] (by decide +kernel)
  refine lv_iload_n hx hb dX6_item_0 rfl (lv_at hl 1 rfl) ?_
  refine ro_S ⟨hx, hb, hml, hown, hts⟩ (k_X4_isThere l dC dI cI cJ p0) (va_cwS 1 hts gX6_item_X4_isThere rfl rfl rfl (by decide +kernel) ⟨Nat.le_of_ble_eq_true rfl, Nat.le_of_ble_eq_true rfl⟩) hE (hP.sub [] rfl) rfl hl.1 rfl (Nat.le_of_ble_eq_true rfl) dX6_item_1 ⟨Nat.zero_le _, Nat.zero_le _⟩ ?_
  refine lv_if_ne (tgt := 9) hx hb dX6_item_4 (by decide) (fun c_1 => ?_) (fun c_1 => ?_)
  · have hr := ite_n hr c_1
    refine lv_aload_n hx hb dX6_item_9 rfl (lv_at hl 0 rfl) ?_
    refine va_get (D := (dC, dI)) (ci := 5) (v := .ref a_o_tapes) (C := RX6) (T := TX6) (N := 7) hx hb hts iX6 hown hK hP 0 rfl rfl 5 (by decide) (hts (.fieldLink RX6 43 "PascalRows" "tapes" "LPascalRows$Tapes;") (List.mem_of_getElem? (i := 1) rfl)) (fun _ h9 => h9) rfl dX6_item_10 ?_
    refine lv_iload_n hx hb dX6_item_13 rfl (lv_at hl 1 rfl) ?_
    obtain ⟨u_2, hu_2, hr⟩ := bd_e hr
    refine ro_V ⟨hx, hb, hml, hown, hts⟩ (k_X4_sortOf l dC dI cI cJ a_o_tapes a_o_tapes_sorts a_o_tapes_lengths a_o_tapes_items p0 o_tapes_sorts u_2 hu_2) (cwV 1 hts gX6_item_X4_sortOf rfl rfl rfl (by decide +kernel) ⟨Nat.le_of_ble_eq_true rfl, Nat.le_of_ble_eq_true rfl⟩) hE hP 1 rfl rfl rfl (hP.sub [1, 2] rfl) rfl hl.1 rfl (Nat.le_of_ble_eq_true rfl) dX6_item_14 ⟨Nat.zero_le _, Nat.zero_le _⟩ ?_
    refine lv_iconst (v := (-1 : Int32)) hx hb dX6_item_17 (by decide) ?_
    refine lv_icmp_ne (tgt := 24) hx hb dX6_item_18 (by decide) (fun c_3 => ?_) (fun c_3 => ?_)
    · have hr := ite_n hr c_3
      refine lv_iload_n hx hb dX6_item_24 rfl (lv_at hl 2 rfl) ?_
      refine lv_iconst (v := (0 : Int32)) hx hb dX6_item_25 (by decide) ?_
      refine lv_aload_n hx hb dX6_item_26 rfl (lv_at hl 0 rfl) ?_
      refine va_get (D := (dC, dI)) (ci := 5) (v := .ref a_o_tapes) (C := RX6) (T := TX6) (N := 7) hx hb hts iX6 hown hK hP 0 rfl rfl 5 (by decide) (hts (.fieldLink RX6 43 "PascalRows" "tapes" "LPascalRows$Tapes;") (List.mem_of_getElem? (i := 1) rfl)) (fun _ h9 => h9) rfl dX6_item_27 ?_
      refine lv_iload_n hx hb dX6_item_30 rfl (lv_at hl 1 rfl) ?_
      obtain ⟨u_4, hu_4, hr⟩ := bd_e hr
      refine ro_V ⟨hx, hb, hml, hown, hts⟩ (k_X4_lengthOf l dC dI cI cJ a_o_tapes a_o_tapes_sorts a_o_tapes_lengths a_o_tapes_items p0 o_tapes_lengths u_4 hu_4) (cwV 1 hts gX6_item_X4_lengthOf rfl rfl rfl (by decide +kernel) ⟨Nat.le_of_ble_eq_true rfl, Nat.le_of_ble_eq_true rfl⟩) hE hP 1 rfl rfl rfl (hP.sub [1, 3] rfl) rfl hl.1 rfl (Nat.le_of_ble_eq_true rfl) dX6_item_31 ⟨Nat.zero_le _, Nat.zero_le _⟩ ?_
      refine lv_iconst (v := (1 : Int32)) hx hb dX6_item_34 (by decide) ?_
      refine lv_isub hx hb dX6_item_35 ?_
      refine ro_S ⟨hx, hb, hml, hown, hts⟩ (k_X6_isWithin l dC dI cI cJ p1 (0 : Int32) (u_4 - (1 : Int32))) (va_cwS 3 hts gX6_item_X6_isWithin rfl rfl rfl (by decide +kernel) ⟨Nat.le_of_ble_eq_true rfl, Nat.le_of_ble_eq_true rfl⟩) hE (hP.sub [] rfl) rfl hl.1 rfl (Nat.le_of_ble_eq_true rfl) dX6_item_36 ⟨Nat.zero_le _, Nat.zero_le _⟩ ?_
      refine lv_if_ne (tgt := 45) hx hb dX6_item_39 (by decide) (fun c_5 => ?_) (fun c_5 => ?_)
      · have hr := ite_n hr c_5
        refine lv_aload_n hx hb dX6_item_45 rfl (lv_at hl 0 rfl) ?_
        refine va_get (D := (dC, dI)) (ci := 5) (v := .ref a_o_tapes) (C := RX6) (T := TX6) (N := 7) hx hb hts iX6 hown hK hP 0 rfl rfl 5 (by decide) (hts (.fieldLink RX6 43 "PascalRows" "tapes" "LPascalRows$Tapes;") (List.mem_of_getElem? (i := 1) rfl)) (fun _ h9 => h9) rfl dX6_item_46 ?_
        refine lv_iload_n hx hb dX6_item_49 rfl (lv_at hl 1 rfl) ?_
        refine lv_iload_n hx hb dX6_item_50 rfl (lv_at hl 2 rfl) ?_
        refine lv_lload_n hx hb dX6_item_51 rfl (lv_at hl 3 rfl) ?_
        obtain ⟨u_6, hu_6, hr⟩ := bd_e hr
        refine mu_V ⟨hx, hb, hml, hown, hts⟩ (k_X4_put l dC dI cI cJ a_o_tapes a_o_tapes_sorts a_o_tapes_lengths a_o_tapes_items p0 p1 p2 o_tapes_sorts o_tapes_lengths o_tapes_items H.size u_6 hu_6) (cwV 3 hts gX6_item_X4_put rfl rfl rfl (by decide +kernel) ⟨Nat.le_of_ble_eq_true rfl, Nat.le_of_ble_eq_true rfl⟩) hE 1 rfl rfl rfl rfl hl.1 rfl (Nat.le_of_ble_eq_true rfl) dX6_item_52 ⟨Nat.zero_le _, Nat.zero_le _⟩ hP (hD.fst rfl) hS hA [1, 2, 3, 4] [0] [0, 1, 2, 3, 4] rfl rfl (by decide) (by decide) rfl (by decide) (W1 := [(a_o, .inr (5, [.ref a_o_triangle, .ref a_o_now, .ref a_o_kept, .ref a_o_trial, .ref a_o_reader, .ref a_o_tapes, .int o_hasImage])), (a_o_tapes, .inr (3, [.ref a_o_tapes_sorts, .ref a_o_tapes_lengths, .ref a_o_tapes_items])), (a_o_tapes_sorts, .inl (cI, 6, .inl o_tapes_sorts)), (a_o_tapes_lengths, .inl (cI, 6, .inl o_tapes_lengths)), (a_o_tapes_items, .inl (cJ, 360, .inr (.inl u_6)))]) rfl (fun H locs hP hS => W.eq (g2 := F0 m 55 ls []) rfl ?_)
        refine lv_iconst (v := (1 : Int32)) hx hb dX6_item_55 (by decide) ?_
        obtain rfl := Option.some.inj hr
        exact hret H locs _ hP hS (fun Qc free hq hf => W.iret hx hb hrt hq hf dX6_item_56 hlocks)
      · have hr := ite_p hr c_5
        refine lv_bipush (v := (-13 : Int32)) hx hb dX6_item_42 (by decide) ?_
        obtain rfl := Option.some.inj hr
        exact hret H locs _ hP hS (fun Qc free hq hf => W.iret hx hb hrt hq hf dX6_item_44 hlocks)
    · have hr := ite_p hr c_3
      refine lv_bipush (v := (-11 : Int32)) hx hb dX6_item_21 (by decide) ?_
      obtain rfl := Option.some.inj hr
      exact hret H locs _ hP hS (fun Qc free hq hf => W.iret hx hb hrt hq hf dX6_item_23 hlocks)
  · have hr := ite_p hr c_1
    refine lv_iconst (v := (-1 : Int32)) hx hb dX6_item_7 (by decide) ?_
    obtain rfl := Option.some.inj hr
    exact hret H locs _ hP hS (fun Qc free hq hf => W.iret hx hb hrt hq hf dX6_item_8 hlocks)
