/-! X6_prime -/
def rmX6_prime : Room := { frames := 2, cells := 0, slots := 0, locals := 45 }
set_option maxHeartbeats 4000000 in
set_option maxRecDepth 100000 in
theorem k_X6_prime (l : Launch) (dC : Nat → ClassId) (dI : Nat → Nat → Nat) (cI cJ : ClassId) (a_o : Nat) (a_o_triangle : Nat) (a_o_now : Nat) (a_o_kept : Nat) (a_o_trial : Nat) (a_o_reader : Nat) (a_o_tapes : Nat) (a_o_now_marks : Nat) (a_o_now_seen : Nat) (a_o_now_events : Nat) (a_o_now_book : Nat) (p0 : Int32) (o_hasImage : Int32) (o_now_p : Int32) (o_now_e : Int32) (o_now_modulus : Int32) (o_now_windowRow : Int32) (o_now_windowPlace : Int32) (sz : Nat) (r : Int32 × Int32 × Int32 × Int32) (hr : f_X6_prime p0 o_now_p o_now_e o_now_modulus = some r) : Met l yX6_prime wsX6_prime rmX6_prime (va_Pc [.ref a_o, .int p0] (pM (dC, dI) cI cJ [(a_o, .inr (5, [.ref a_o_triangle, .ref a_o_now, .ref a_o_kept, .ref a_o_trial, .ref a_o_reader, .ref a_o_tapes, .int o_hasImage])), (a_o_now, .inr (2, [.ref a_o_triangle, .ref a_o_now_marks, .ref a_o_now_seen, .ref a_o_now_events, .ref a_o_now_book, .int o_now_p, .int o_now_e, .int o_now_modulus, .int o_now_windowRow, .int o_now_windowPlace]))] sz)) (qM (some (.int r.1)) (dC, dI) [(a_o, .inr (5, [.ref a_o_triangle, .ref a_o_now, .ref a_o_kept, .ref a_o_trial, .ref a_o_reader, .ref a_o_tapes, .int o_hasImage])), (a_o_now, .inr (2, [.ref a_o_triangle, .ref a_o_now_marks, .ref a_o_now_seen, .ref a_o_now_events, .ref a_o_now_book, .int r.2.1, .int r.2.2.1, .int r.2.2.2, .int o_now_windowRow, .int o_now_windowPlace]))] (va_A [(a_o, .inr (5, [.ref a_o_triangle, .ref a_o_now, .ref a_o_kept, .ref a_o_trial, .ref a_o_reader, .ref a_o_tapes, .int o_hasImage])), (a_o_now, .inr (2, [.ref a_o_triangle, .ref a_o_now_marks, .ref a_o_now_seen, .ref a_o_now_events, .ref a_o_now_book, .int o_now_p, .int o_now_e, .int o_now_modulus, .int o_now_windowRow, .int o_now_windowPlace]))] sz)) 0 0 (va_A [(a_o, .inr (5, [.ref a_o_triangle, .ref a_o_now, .ref a_o_kept, .ref a_o_trial, .ref a_o_reader, .ref a_o_tapes, .int o_hasImage])), (a_o_now, .inr (2, [.ref a_o_triangle, .ref a_o_now_marks, .ref a_o_now_seen, .ref a_o_now_events, .ref a_o_now_book, .int o_now_p, .int o_now_e, .int o_now_modulus, .int o_now_windowRow, .int o_now_windowPlace]))] sz) := by
  refine mu_of (cc := cX6_prime) (maxL := 3) (by decide) rfl (Nat.le_of_ble_eq_true rfl) ?_
  intro p e s m args below meth c Q ls A hx hb hml hown hts hE hP hD hA hrt hlocks hret hl
  have hK := hE.1
  have hS : va_S A s.heap s.heap [] := va_S.rf
  have hl : lv_has ls 3 [(0, .ref a_o), (1, .int p0)] := hl
  unfold f_X6_prime at hr
  obtain ⟨H, hHe⟩ : ∃ H, H = s.heap := ⟨_, rfl⟩
  obtain ⟨locs, hLe⟩ : ∃ locs : List Loc, locs = [] := ⟨_, rfl⟩
  suffices hgo : va_P (dC, dI) vwCl [(a_o, .inr (5, [.ref a_o_triangle, .ref a_o_now, .ref a_o_kept, .ref a_o_trial, .ref a_o_reader, .ref a_o_tapes, .int o_hasImage])), (a_o_now, .inr (2, [.ref a_o_triangle, .ref a_o_now_marks, .ref a_o_now_seen, .ref a_o_now_events, .ref a_o_now_book, .int o_now_p, .int o_now_e, .int o_now_modulus, .int o_now_windowRow, .int o_now_windowPlace]))] H → va_S A s.heap H locs → W p l e rmX6_prime s m args below meth c H locs 0 0 Q (F0 m 0 ls []) by
    subst hHe; subst hLe; exact hgo hP hS
  clear hP hS hHe hLe
  intro hP hS
  have iX3 : ∀ w ∈ wsX30, w ∈ wsX6_prime := memr_ (big := wsX6_prime) wsX30 [21, 22, 23, 24, 25, 26, 27, 28, 29, 30] (by decide +kernel)
  have iX6 : ∀ w ∈ wsX60, w ∈ wsX6_prime := memr_ (big := wsX6_prime) wsX60 [14, 15, 16, 17, 18, 19, 20] (by decide +kernel)
  refine lv_iload_n hx hb dX6_prime_0 rfl (lv_at hl 1 rfl) ?_
  refine lv_iconst (v := (2 : Int32)) hx hb dX6_prime_1 (by decide) ?_
  have tT_2 : ((¬ (p0 = (2 : Int32))) ∧ ((¬ (p0 = (3 : Int32))) ∧ ((¬ (p0 = (5 : Int32))) ∧ (¬ (p0 = (7 : Int32)))))) → W p l e rmX6_prime s m args below meth c H locs 0 0 Q (F0 m 21 ls []) := by
    intro hc_1
    have hr := ite_p hr hc_1
    refine lv_bipush (v := (-2 : Int32)) hx hb dX6_prime_21 (by decide) ?_
    obtain rfl := Option.some.inj hr
    exact hret H locs _ hP hS (fun Qc free hq hf => W.iret hx hb hrt hq hf dX6_prime_23 hlocks)
  have tF_3 : ¬ ((¬ (p0 = (2 : Int32))) ∧ ((¬ (p0 = (3 : Int32))) ∧ ((¬ (p0 = (5 : Int32))) ∧ (¬ (p0 = (7 : Int32)))))) → W p l e rmX6_prime s m args below meth c H locs 0 0 Q (F0 m 24 ls []) := by
    intro hc_1
    have hr := ite_n hr hc_1
    refine lv_aload_n hx hb dX6_prime_24 rfl (lv_at hl 0 rfl) ?_
    refine va_get (D := (dC, dI)) (ci := 5) (v := .ref a_o_now) (C := RX6) (T := TX6) (N := 7) hx hb hts iX6 hown hK hP 0 rfl rfl 1 (by decide) (hts (.fieldLink RX6 23 "PascalRows" "now" "LPascalRows$Setup;") (List.mem_of_getElem? (i := 1) rfl)) (fun _ h9 => h9) rfl dX6_prime_25 ?_
    refine va_getN (host := "PascalRows") (D := (dC, dI)) (ci := 2) (v := .int o_now_p) (C := RX3) (T := TX3) (N := 10) hx hb hts iX3 hown hK hP 1 rfl rfl 5 (by decide) (hE.nest 5 rfl rfl) (fun _ h9 => h9) rfl dX6_prime_28 ?_
    refine lv_istore_n (lv' := [(2, .int o_now_p), (0, .ref a_o), (1, .int p0)]) hx hb dX6_prime_31 rfl hl (by decide) rfl (fun ls hl => ?_)
    refine lv_aload_n hx hb dX6_prime_32 rfl (lv_at hl 1 rfl) ?_
    refine va_get (D := (dC, dI)) (ci := 5) (v := .ref a_o_now) (C := RX6) (T := TX6) (N := 7) hx hb hts iX6 hown hK hP 0 rfl rfl 1 (by decide) (hts (.fieldLink RX6 23 "PascalRows" "now" "LPascalRows$Setup;") (List.mem_of_getElem? (i := 1) rfl)) (fun _ h9 => h9) rfl dX6_prime_33 ?_
    refine lv_iload_n hx hb dX6_prime_36 rfl (lv_at hl 2 rfl) ?_
    refine lv_aload_n hx hb dX6_prime_37 rfl (lv_at hl 1 rfl) ?_
    refine va_get (D := (dC, dI)) (ci := 5) (v := .ref a_o_now) (C := RX6) (T := TX6) (N := 7) hx hb hts iX6 hown hK hP 0 rfl rfl 1 (by decide) (hts (.fieldLink RX6 23 "PascalRows" "now" "LPascalRows$Setup;") (List.mem_of_getElem? (i := 1) rfl)) (fun _ h9 => h9) rfl dX6_prime_38 ?_
    refine va_getN (host := "PascalRows") (D := (dC, dI)) (ci := 2) (v := .int o_now_e) (C := RX3) (T := TX3) (N := 10) hx hb hts iX3 hown hK hP 1 rfl rfl 6 (by decide) (hE.nest 6 rfl rfl) (fun _ h9 => h9) rfl dX6_prime_41 ?_
    obtain ⟨u_4, hu_4, hr⟩ := bd_e hr
    refine mu_V ⟨hx, hb, hml, hown, hts⟩ (k_X3_become l dC dI cI cJ a_o_now a_o_triangle a_o_now_marks a_o_now_seen a_o_now_events a_o_now_book p0 o_now_e o_now_p o_now_e o_now_modulus o_now_windowRow o_now_windowPlace H.size u_4 hu_4) (cwV 2 hts gX6_prime_X3_become rfl rfl rfl (by decide +kernel) ⟨Nat.le_of_ble_eq_true rfl, Nat.le_of_ble_eq_true rfl⟩) hE 1 rfl rfl rfl rfl hl.1 rfl (Nat.le_of_ble_eq_true rfl) dX6_prime_44 ⟨Nat.zero_le _, Nat.zero_le _⟩ hP (hD.fst rfl) hS hA [1] [0] [0, 1] rfl rfl (by decide) (by decide) rfl (by decide) (W1 := [(a_o, .inr (5, [.ref a_o_triangle, .ref a_o_now, .ref a_o_kept, .ref a_o_trial, .ref a_o_reader, .ref a_o_tapes, .int o_hasImage])), (a_o_now, .inr (2, [.ref a_o_triangle, .ref a_o_now_marks, .ref a_o_now_seen, .ref a_o_now_events, .ref a_o_now_book, .int u_4.1, .int u_4.2.1, .int u_4.2.2, .int o_now_windowRow, .int o_now_windowPlace]))]) rfl (fun H locs hP hS => W.eq (g2 := F0 m 47 ls []) rfl ?_)
    refine lv_iload_n hx hb dX6_prime_47 rfl (lv_at hl 0 rfl) ?_
    obtain rfl := Option.some.inj hr
    exact hret H locs _ hP hS (fun Qc free hq hf => W.iret hx hb hrt hq hf dX6_prime_48 hlocks)
  refine lv_icmp_eq (tgt := 24) hx hb dX6_prime_2 (by decide) (fun c_5 => ?_) (fun c_5 => ?_)
  · exact tF_3 (fun h => (fun h => h c_5) h.1)
  · refine lv_iload_n hx hb dX6_prime_5 rfl (lv_at hl 1 rfl) ?_
    refine lv_iconst (v := (3 : Int32)) hx hb dX6_prime_6 (by decide) ?_
    refine lv_icmp_eq (tgt := 24) hx hb dX6_prime_7 (by decide) (fun c_6 => ?_) (fun c_6 => ?_)
    · exact tF_3 (fun h => (fun h => (fun h => h c_6) h.1) h.2)
    · refine lv_iload_n hx hb dX6_prime_10 rfl (lv_at hl 1 rfl) ?_
      refine lv_iconst (v := (5 : Int32)) hx hb dX6_prime_11 (by decide) ?_
      refine lv_icmp_eq (tgt := 24) hx hb dX6_prime_12 (by decide) (fun c_7 => ?_) (fun c_7 => ?_)
      · exact tF_3 (fun h => (fun h => (fun h => (fun h => h c_7) h.1) h.2) h.2)
      · refine lv_iload_n hx hb dX6_prime_15 rfl (lv_at hl 1 rfl) ?_
        refine lv_bipush (v := (7 : Int32)) hx hb dX6_prime_16 (by decide) ?_
        refine lv_icmp_eq (tgt := 24) hx hb dX6_prime_18 (by decide) (fun c_8 => ?_) (fun c_8 => ?_)
        · exact tF_3 (fun h => (fun h => (fun h => (fun h => h c_8) h.2) h.2) h.2)
        · exact tT_2 ⟨c_5, ⟨c_6, ⟨c_7, c_8⟩⟩⟩
/-! X6_power -/
def rmX6_power : Room := { frames := 2, cells := 0, slots := 0, locals := 45 }
set_option maxHeartbeats 4000000 in
set_option maxRecDepth 100000 in
theorem k_X6_power (l : Launch) (dC : Nat → ClassId) (dI : Nat → Nat → Nat) (cI cJ : ClassId) (a_o : Nat) (a_o_triangle : Nat) (a_o_now : Nat) (a_o_kept : Nat) (a_o_trial : Nat) (a_o_reader : Nat) (a_o_tapes : Nat) (a_o_now_marks : Nat) (a_o_now_seen : Nat) (a_o_now_events : Nat) (a_o_now_book : Nat) (p0 : Int32) (o_hasImage : Int32) (o_now_p : Int32) (o_now_e : Int32) (o_now_modulus : Int32) (o_now_windowRow : Int32) (o_now_windowPlace : Int32) (sz : Nat) (r : Int32 × Int32 × Int32 × Int32) (hr : f_X6_power p0 o_now_p o_now_e o_now_modulus = some r) : Met l yX6_power wsX6_power rmX6_power (va_Pc [.ref a_o, .int p0] (pM (dC, dI) cI cJ [(a_o, .inr (5, [.ref a_o_triangle, .ref a_o_now, .ref a_o_kept, .ref a_o_trial, .ref a_o_reader, .ref a_o_tapes, .int o_hasImage])), (a_o_now, .inr (2, [.ref a_o_triangle, .ref a_o_now_marks, .ref a_o_now_seen, .ref a_o_now_events, .ref a_o_now_book, .int o_now_p, .int o_now_e, .int o_now_modulus, .int o_now_windowRow, .int o_now_windowPlace]))] sz)) (qM (some (.int r.1)) (dC, dI) [(a_o, .inr (5, [.ref a_o_triangle, .ref a_o_now, .ref a_o_kept, .ref a_o_trial, .ref a_o_reader, .ref a_o_tapes, .int o_hasImage])), (a_o_now, .inr (2, [.ref a_o_triangle, .ref a_o_now_marks, .ref a_o_now_seen, .ref a_o_now_events, .ref a_o_now_book, .int r.2.1, .int r.2.2.1, .int r.2.2.2, .int o_now_windowRow, .int o_now_windowPlace]))] (va_A [(a_o, .inr (5, [.ref a_o_triangle, .ref a_o_now, .ref a_o_kept, .ref a_o_trial, .ref a_o_reader, .ref a_o_tapes, .int o_hasImage])), (a_o_now, .inr (2, [.ref a_o_triangle, .ref a_o_now_marks, .ref a_o_now_seen, .ref a_o_now_events, .ref a_o_now_book, .int o_now_p, .int o_now_e, .int o_now_modulus, .int o_now_windowRow, .int o_now_windowPlace]))] sz)) 0 0 (va_A [(a_o, .inr (5, [.ref a_o_triangle, .ref a_o_now, .ref a_o_kept, .ref a_o_trial, .ref a_o_reader, .ref a_o_tapes, .int o_hasImage])), (a_o_now, .inr (2, [.ref a_o_triangle, .ref a_o_now_marks, .ref a_o_now_seen, .ref a_o_now_events, .ref a_o_now_book, .int o_now_p, .int o_now_e, .int o_now_modulus, .int o_now_windowRow, .int o_now_windowPlace]))] sz) := by
  refine mu_of (cc := cX6_power) (maxL := 3) (by decide) rfl (Nat.le_of_ble_eq_true rfl) ?_
  intro p e s m args below meth c Q ls A hx hb hml hown hts hE hP hD hA hrt hlocks hret hl
  have hK := hE.1
  have hS : va_S A s.heap s.heap [] := va_S.rf
  have hl : lv_has ls 3 [(0, .ref a_o), (1, .int p0)] := hl
  unfold f_X6_power at hr
  obtain ⟨H, hHe⟩ : ∃ H, H = s.heap := ⟨_, rfl⟩
  obtain ⟨locs, hLe⟩ : ∃ locs : List Loc, locs = [] := ⟨_, rfl⟩
  suffices hgo : va_P (dC, dI) vwCl [(a_o, .inr (5, [.ref a_o_triangle, .ref a_o_now, .ref a_o_kept, .ref a_o_trial, .ref a_o_reader, .ref a_o_tapes, .int o_hasImage])), (a_o_now, .inr (2, [.ref a_o_triangle, .ref a_o_now_marks, .ref a_o_now_seen, .ref a_o_now_events, .ref a_o_now_book, .int o_now_p, .int o_now_e, .int o_now_modulus, .int o_now_windowRow, .int o_now_windowPlace]))] H → va_S A s.heap H locs → W p l e rmX6_power s m args below meth c H locs 0 0 Q (F0 m 0 ls []) by
    subst hHe; subst hLe; exact hgo hP hS
  clear hP hS hHe hLe
  intro hP hS
  have iX3 : ∀ w ∈ wsX30, w ∈ wsX6_power := memr_ (big := wsX6_power) wsX30 [25, 26, 27, 28, 29, 30, 31, 32, 33, 34] (by decide +kernel)
  have iX6 : ∀ w ∈ wsX60, w ∈ wsX6_power := memr_ (big := wsX6_power) wsX60 [18, 19, 20, 21, 22, 23, 24] (by decide +kernel)
  refine lv_iload_n hx hb dX6_power_0 rfl (lv_at hl 1 rfl) ?_
  refine lv_iconst (v := (1 : Int32)) hx hb dX6_power_1 (by decide) ?_
  refine lv_iconst (v := (4 : Int32)) hx hb dX6_power_2 (by decide) ?_
  refine ro_S ⟨hx, hb, hml, hown, hts⟩ (k_X6_isWithin l dC dI cI cJ p0 (1 : Int32) (4 : Int32)) (va_cwS 3 hts gX6_power_X6_isWithin rfl rfl rfl (by decide +kernel) ⟨Nat.le_of_ble_eq_true rfl, Nat.le_of_ble_eq_true rfl⟩) hE (hP.sub [] rfl) rfl hl.1 rfl (Nat.le_of_ble_eq_true rfl) dX6_power_3 ⟨Nat.zero_le _, Nat.zero_le _⟩ ?_
  refine lv_if_ne (tgt := 12) hx hb dX6_power_6 (by decide) (fun c_1 => ?_) (fun c_1 => ?_)
  · have hr := ite_n hr c_1
    refine lv_aload_n hx hb dX6_power_12 rfl (lv_at hl 0 rfl) ?_
    refine va_get (D := (dC, dI)) (ci := 5) (v := .ref a_o_now) (C := RX6) (T := TX6) (N := 7) hx hb hts iX6 hown hK hP 0 rfl rfl 1 (by decide) (hts (.fieldLink RX6 23 "PascalRows" "now" "LPascalRows$Setup;") (List.mem_of_getElem? (i := 1) rfl)) (fun _ h9 => h9) rfl dX6_power_13 ?_
    refine va_getN (host := "PascalRows") (D := (dC, dI)) (ci := 2) (v := .int o_now_e) (C := RX3) (T := TX3) (N := 10) hx hb hts iX3 hown hK hP 1 rfl rfl 6 (by decide) (hE.nest 6 rfl rfl) (fun _ h9 => h9) rfl dX6_power_16 ?_
    refine lv_istore_n (lv' := [(2, .int o_now_e), (0, .ref a_o), (1, .int p0)]) hx hb dX6_power_19 rfl hl (by decide) rfl (fun ls hl => ?_)
    refine lv_aload_n hx hb dX6_power_20 rfl (lv_at hl 1 rfl) ?_
    refine va_get (D := (dC, dI)) (ci := 5) (v := .ref a_o_now) (C := RX6) (T := TX6) (N := 7) hx hb hts iX6 hown hK hP 0 rfl rfl 1 (by decide) (hts (.fieldLink RX6 23 "PascalRows" "now" "LPascalRows$Setup;") (List.mem_of_getElem? (i := 1) rfl)) (fun _ h9 => h9) rfl dX6_power_21 ?_
    refine lv_aload_n hx hb dX6_power_24 rfl (lv_at hl 1 rfl) ?_
    refine va_get (D := (dC, dI)) (ci := 5) (v := .ref a_o_now) (C := RX6) (T := TX6) (N := 7) hx hb hts iX6 hown hK hP 0 rfl rfl 1 (by decide) (hts (.fieldLink RX6 23 "PascalRows" "now" "LPascalRows$Setup;") (List.mem_of_getElem? (i := 1) rfl)) (fun _ h9 => h9) rfl dX6_power_25 ?_
    refine va_getN (host := "PascalRows") (D := (dC, dI)) (ci := 2) (v := .int o_now_p) (C := RX3) (T := TX3) (N := 10) hx hb hts iX3 hown hK hP 1 rfl rfl 5 (by decide) (hE.nest 5 rfl rfl) (fun _ h9 => h9) rfl dX6_power_28 ?_
    refine lv_iload_n hx hb dX6_power_31 rfl (lv_at hl 2 rfl) ?_
    obtain ⟨u_2, hu_2, hr⟩ := bd_e hr
    refine mu_V ⟨hx, hb, hml, hown, hts⟩ (k_X3_become l dC dI cI cJ a_o_now a_o_triangle a_o_now_marks a_o_now_seen a_o_now_events a_o_now_book o_now_p p0 o_now_p o_now_e o_now_modulus o_now_windowRow o_now_windowPlace H.size u_2 hu_2) (cwV 2 hts gX6_power_X3_become rfl rfl rfl (by decide +kernel) ⟨Nat.le_of_ble_eq_true rfl, Nat.le_of_ble_eq_true rfl⟩) hE 1 rfl rfl rfl rfl hl.1 rfl (Nat.le_of_ble_eq_true rfl) dX6_power_32 ⟨Nat.zero_le _, Nat.zero_le _⟩ hP (hD.fst rfl) hS hA [1] [0] [0, 1] rfl rfl (by decide) (by decide) rfl (by decide) (W1 := [(a_o, .inr (5, [.ref a_o_triangle, .ref a_o_now, .ref a_o_kept, .ref a_o_trial, .ref a_o_reader, .ref a_o_tapes, .int o_hasImage])), (a_o_now, .inr (2, [.ref a_o_triangle, .ref a_o_now_marks, .ref a_o_now_seen, .ref a_o_now_events, .ref a_o_now_book, .int u_2.1, .int u_2.2.1, .int u_2.2.2, .int o_now_windowRow, .int o_now_windowPlace]))]) rfl (fun H locs hP hS => W.eq (g2 := F0 m 35 ls []) rfl ?_)
    refine lv_iload_n hx hb dX6_power_35 rfl (lv_at hl 0 rfl) ?_
    obtain rfl := Option.some.inj hr
    exact hret H locs _ hP hS (fun Qc free hq hf => W.iret hx hb hrt hq hf dX6_power_36 hlocks)
  · have hr := ite_p hr c_1
    refine lv_bipush (v := (-2 : Int32)) hx hb dX6_power_9 (by decide) ?_
    obtain rfl := Option.some.inj hr
    exact hret H locs _ hP hS (fun Qc free hq hf => W.iret hx hb hrt hq hf dX6_power_11 hlocks)
/-! X6_mark -/
def rmX6_mark : Room := { frames := 1, cells := 0, slots := 0, locals := 24 }
set_option maxHeartbeats 4000000 in
set_option maxRecDepth 100000 in
theorem k_X6_mark (l : Launch) (dC : Nat → ClassId) (dI : Nat → Nat → Nat) (cI cJ : ClassId) (a_o : Nat) (a_o_triangle : Nat) (a_o_now : Nat) (a_o_kept : Nat) (a_o_trial : Nat) (a_o_reader : Nat) (a_o_tapes : Nat) (a_o_now_marks : Nat) (a_o_now_seen : Nat) (a_o_now_events : Nat) (a_o_now_book : Nat) (a_o_now_marks_numbers : Nat) (p0 : Int32) (p1 : Int32) (o_hasImage : Int32) (o_now_p : Int32) (o_now_e : Int32) (o_now_modulus : Int32) (o_now_windowRow : Int32) (o_now_windowPlace : Int32) (o_now_marks_size : Int32) (o_now_marks_numbers : Nat → Int32) (sz : Nat) (r : Int32 × (Nat → Int32) × Int32) (hr : f_X6_mark p0 p1 o_now_marks_numbers o_now_marks_size = some r) : Met l yX6_mark wsX6_mark rmX6_mark (va_Pc [.ref a_o, .int p0, .int p1] (pM (dC, dI) cI cJ [(a_o, .inr (5, [.ref a_o_triangle, .ref a_o_now, .ref a_o_kept, .ref a_o_trial, .ref a_o_reader, .ref a_o_tapes, .int o_hasImage])), (a_o_now, .inr (2, [.ref a_o_triangle, .ref a_o_now_marks, .ref a_o_now_seen, .ref a_o_now_events, .ref a_o_now_book, .int o_now_p, .int o_now_e, .int o_now_modulus, .int o_now_windowRow, .int o_now_windowPlace])), (a_o_now_marks, .inr (0, [.ref a_o_now_marks_numbers, .int o_now_marks_size])), (a_o_now_marks_numbers, .inl (cI, 18, .inl o_now_marks_numbers))] sz)) (qM (some (.int r.1)) (dC, dI) [(a_o, .inr (5, [.ref a_o_triangle, .ref a_o_now, .ref a_o_kept, .ref a_o_trial, .ref a_o_reader, .ref a_o_tapes, .int o_hasImage])), (a_o_now, .inr (2, [.ref a_o_triangle, .ref a_o_now_marks, .ref a_o_now_seen, .ref a_o_now_events, .ref a_o_now_book, .int o_now_p, .int o_now_e, .int o_now_modulus, .int o_now_windowRow, .int o_now_windowPlace])), (a_o_now_marks, .inr (0, [.ref a_o_now_marks_numbers, .int r.2.2])), (a_o_now_marks_numbers, .inl (cI, 18, .inl r.2.1))] (va_A [(a_o, .inr (5, [.ref a_o_triangle, .ref a_o_now, .ref a_o_kept, .ref a_o_trial, .ref a_o_reader, .ref a_o_tapes, .int o_hasImage])), (a_o_now, .inr (2, [.ref a_o_triangle, .ref a_o_now_marks, .ref a_o_now_seen, .ref a_o_now_events, .ref a_o_now_book, .int o_now_p, .int o_now_e, .int o_now_modulus, .int o_now_windowRow, .int o_now_windowPlace])), (a_o_now_marks, .inr (0, [.ref a_o_now_marks_numbers, .int o_now_marks_size])), (a_o_now_marks_numbers, .inl (cI, 18, .inl o_now_marks_numbers))] sz)) 0 0 (va_A [(a_o, .inr (5, [.ref a_o_triangle, .ref a_o_now, .ref a_o_kept, .ref a_o_trial, .ref a_o_reader, .ref a_o_tapes, .int o_hasImage])), (a_o_now, .inr (2, [.ref a_o_triangle, .ref a_o_now_marks, .ref a_o_now_seen, .ref a_o_now_events, .ref a_o_now_book, .int o_now_p, .int o_now_e, .int o_now_modulus, .int o_now_windowRow, .int o_now_windowPlace])), (a_o_now_marks, .inr (0, [.ref a_o_now_marks_numbers, .int o_now_marks_size])), (a_o_now_marks_numbers, .inl (cI, 18, .inl o_now_marks_numbers))] sz) := by
  refine mu_of (cc := cX6_mark) (maxL := 3) (by decide) rfl (Nat.le_of_ble_eq_true rfl) ?_
  intro p e s m args below meth c Q ls A hx hb hml hown hts hE hP hD hA hrt hlocks hret hl
  have hK := hE.1
  have hS : va_S A s.heap s.heap [] := va_S.rf
  have hl : lv_has ls 3 [(0, .ref a_o), (1, .int p0), (2, .int p1)] := hl
  unfold f_X6_mark at hr
  obtain ⟨H, hHe⟩ : ∃ H, H = s.heap := ⟨_, rfl⟩
  obtain ⟨locs, hLe⟩ : ∃ locs : List Loc, locs = [] := ⟨_, rfl⟩
  suffices hgo : va_P (dC, dI) vwCl [(a_o, .inr (5, [.ref a_o_triangle, .ref a_o_now, .ref a_o_kept, .ref a_o_trial, .ref a_o_reader, .ref a_o_tapes, .int o_hasImage])), (a_o_now, .inr (2, [.ref a_o_triangle, .ref a_o_now_marks, .ref a_o_now_seen, .ref a_o_now_events, .ref a_o_now_book, .int o_now_p, .int o_now_e, .int o_now_modulus, .int o_now_windowRow, .int o_now_windowPlace])), (a_o_now_marks, .inr (0, [.ref a_o_now_marks_numbers, .int o_now_marks_size])), (a_o_now_marks_numbers, .inl (cI, 18, .inl o_now_marks_numbers))] H → va_S A s.heap H locs → W p l e rmX6_mark s m args below meth c H locs 0 0 Q (F0 m 0 ls []) by
    subst hHe; subst hLe; exact hgo hP hS
  clear hP hS hHe hLe
  intro hP hS
  have iX1 : ∀ w ∈ wsX10, w ∈ wsX6_mark := memr_ (big := wsX6_mark) wsX10 [30, 31] (by decide +kernel)
  have iX3 : ∀ w ∈ wsX30, w ∈ wsX6_mark := memr_ (big := wsX6_mark) wsX30 [20, 21, 22, 23, 24, 25, 26, 27, 28, 29] (by decide +kernel)
  have iX6 : ∀ w ∈ wsX60, w ∈ wsX6_mark := memr_ (big := wsX6_mark) wsX60 [13, 14, 15, 16, 17, 18, 19] (by decide +kernel)
  refine lv_iload_n hx hb dX6_mark_0 rfl (lv_at hl 1 rfl) ?_
  refine lv_iconst (v := (0 : Int32)) hx hb dX6_mark_1 (by decide) ?_
  refine lv_iconst (v := (4 : Int32)) hx hb dX6_mark_2 (by decide) ?_
  refine ro_S ⟨hx, hb, hml, hown, hts⟩ (k_X6_isWithin l dC dI cI cJ p0 (0 : Int32) (4 : Int32)) (va_cwS 3 hts gX6_mark_X6_isWithin rfl rfl rfl (by decide +kernel) ⟨Nat.le_of_ble_eq_true rfl, Nat.le_of_ble_eq_true rfl⟩) hE (hP.sub [] rfl) rfl hl.1 rfl (Nat.le_of_ble_eq_true rfl) dX6_mark_3 ⟨Nat.zero_le _, Nat.zero_le _⟩ ?_
  refine lv_if_ne (tgt := 11) hx hb dX6_mark_6 (by decide) (fun c_1 => ?_) (fun c_1 => ?_)
  · have hr := ite_n hr c_1
    refine lv_iload_n hx hb dX6_mark_11 rfl (lv_at hl 2 rfl) ?_
    refine lv_iconst (v := (0 : Int32)) hx hb dX6_mark_12 (by decide) ?_
    refine lv_sipush (v := (2400 : Int32)) hx hb dX6_mark_13 (by decide) ?_
    refine ro_S ⟨hx, hb, hml, hown, hts⟩ (k_X6_isWithin l dC dI cI cJ p1 (0 : Int32) (2400 : Int32)) (va_cwS 3 hts gX6_mark_X6_isWithin rfl rfl rfl (by decide +kernel) ⟨Nat.le_of_ble_eq_true rfl, Nat.le_of_ble_eq_true rfl⟩) hE (hP.sub [] rfl) rfl hl.1 rfl (Nat.le_of_ble_eq_true rfl) dX6_mark_16 ⟨Nat.zero_le _, Nat.zero_le _⟩ ?_
    refine lv_if_ne (tgt := 25) hx hb dX6_mark_19 (by decide) (fun c_2 => ?_) (fun c_2 => ?_)
    · have hr := ite_n hr c_2
      refine lv_aload_n hx hb dX6_mark_25 rfl (lv_at hl 0 rfl) ?_
      refine va_get (D := (dC, dI)) (ci := 5) (v := .ref a_o_now) (C := RX6) (T := TX6) (N := 7) hx hb hts iX6 hown hK hP 0 rfl rfl 1 (by decide) (hts (.fieldLink RX6 23 "PascalRows" "now" "LPascalRows$Setup;") (List.mem_of_getElem? (i := 1) rfl)) (fun _ h9 => h9) rfl dX6_mark_26 ?_
      refine va_getN (host := "PascalRows") (D := (dC, dI)) (ci := 2) (v := .ref a_o_now_marks) (C := RX3) (T := TX3) (N := 10) hx hb hts iX3 hown hK hP 1 rfl rfl 1 (by decide) (hE.nest 7 rfl rfl) (fun _ h9 => h9) rfl dX6_mark_29 ?_
      refine lv_iload_n hx hb dX6_mark_32 rfl (lv_at hl 1 rfl) ?_
      refine lv_iload_n hx hb dX6_mark_33 rfl (lv_at hl 2 rfl) ?_
      refine lv_iconst (v := (0 : Int32)) hx hb dX6_mark_34 (by decide) ?_
      obtain ⟨u_3, hu_3, hr⟩ := bd_e hr
      refine mu_V ⟨hx, hb, hml, hown, hts⟩ (k_X1_add l dC dI cI cJ a_o_now_marks a_o_now_marks_numbers p0 p1 (0 : Int32) 18 o_now_marks_size o_now_marks_numbers H.size u_3 hu_3) (cwV 3 hts gX6_mark_X1_add rfl rfl rfl (by decide +kernel) ⟨Nat.le_of_ble_eq_true rfl, Nat.le_of_ble_eq_true rfl⟩) hE 2 rfl rfl rfl rfl hl.1 rfl (Nat.le_of_ble_eq_true rfl) dX6_mark_35 ⟨Nat.zero_le _, Nat.zero_le _⟩ hP (hD.fst rfl) hS hA [2, 3] [0, 1] [0, 1, 2, 3] rfl rfl (by decide) (by decide) rfl (by decide) (W1 := [(a_o, .inr (5, [.ref a_o_triangle, .ref a_o_now, .ref a_o_kept, .ref a_o_trial, .ref a_o_reader, .ref a_o_tapes, .int o_hasImage])), (a_o_now, .inr (2, [.ref a_o_triangle, .ref a_o_now_marks, .ref a_o_now_seen, .ref a_o_now_events, .ref a_o_now_book, .int o_now_p, .int o_now_e, .int o_now_modulus, .int o_now_windowRow, .int o_now_windowPlace])), (a_o_now_marks, .inr (0, [.ref a_o_now_marks_numbers, .int u_3.2.2])), (a_o_now_marks_numbers, .inl (cI, 18, .inl u_3.2.1))]) rfl (fun H locs hP hS => W.eq (g2 := F0 m 38 ls [.int u_3.1]) rfl ?_)
      obtain rfl := Option.some.inj hr
      exact hret H locs _ hP hS (fun Qc free hq hf => W.iret hx hb hrt hq hf dX6_mark_38 hlocks)
    · have hr := ite_p hr c_2
      refine lv_bipush (v := (-2 : Int32)) hx hb dX6_mark_22 (by decide) ?_
      obtain rfl := Option.some.inj hr
      exact hret H locs _ hP hS (fun Qc free hq hf => W.iret hx hb hrt hq hf dX6_mark_24 hlocks)
  · have hr := ite_p hr c_1
    refine lv_iconst (v := (-1 : Int32)) hx hb dX6_mark_9 (by decide) ?_
    obtain rfl := Option.some.inj hr
    exact hret H locs _ hP hS (fun Qc free hq hf => W.iret hx hb hrt hq hf dX6_mark_10 hlocks)
/-! X6_clear -/
def rmX6_clear : Room := { frames := 1, cells := 0, slots := 0, locals := 20 }
set_option maxHeartbeats 4000000 in
set_option maxRecDepth 100000 in
theorem k_X6_clear (l : Launch) (dC : Nat → ClassId) (dI : Nat → Nat → Nat) (cI cJ : ClassId) (a_o : Nat) (a_o_triangle : Nat) (a_o_now : Nat) (a_o_kept : Nat) (a_o_trial : Nat) (a_o_reader : Nat) (a_o_tapes : Nat) (a_o_now_marks : Nat) (a_o_now_seen : Nat) (a_o_now_events : Nat) (a_o_now_book : Nat) (a_o_now_marks_numbers : Nat) (o_hasImage : Int32) (o_now_p : Int32) (o_now_e : Int32) (o_now_modulus : Int32) (o_now_windowRow : Int32) (o_now_windowPlace : Int32) (o_now_marks_size : Int32) (sz : Nat) (r : Int32 × Int32) (hr : f_X6_clear o_now_marks_size = some r) : Met l yX6_clear wsX6_clear rmX6_clear (va_Pc [.ref a_o] (pM (dC, dI) cI cJ [(a_o, .inr (5, [.ref a_o_triangle, .ref a_o_now, .ref a_o_kept, .ref a_o_trial, .ref a_o_reader, .ref a_o_tapes, .int o_hasImage])), (a_o_now, .inr (2, [.ref a_o_triangle, .ref a_o_now_marks, .ref a_o_now_seen, .ref a_o_now_events, .ref a_o_now_book, .int o_now_p, .int o_now_e, .int o_now_modulus, .int o_now_windowRow, .int o_now_windowPlace])), (a_o_now_marks, .inr (0, [.ref a_o_now_marks_numbers, .int o_now_marks_size]))] sz)) (qM (some (.int r.1)) (dC, dI) [(a_o, .inr (5, [.ref a_o_triangle, .ref a_o_now, .ref a_o_kept, .ref a_o_trial, .ref a_o_reader, .ref a_o_tapes, .int o_hasImage])), (a_o_now, .inr (2, [.ref a_o_triangle, .ref a_o_now_marks, .ref a_o_now_seen, .ref a_o_now_events, .ref a_o_now_book, .int o_now_p, .int o_now_e, .int o_now_modulus, .int o_now_windowRow, .int o_now_windowPlace])), (a_o_now_marks, .inr (0, [.ref a_o_now_marks_numbers, .int r.2]))] (va_A [(a_o, .inr (5, [.ref a_o_triangle, .ref a_o_now, .ref a_o_kept, .ref a_o_trial, .ref a_o_reader, .ref a_o_tapes, .int o_hasImage])), (a_o_now, .inr (2, [.ref a_o_triangle, .ref a_o_now_marks, .ref a_o_now_seen, .ref a_o_now_events, .ref a_o_now_book, .int o_now_p, .int o_now_e, .int o_now_modulus, .int o_now_windowRow, .int o_now_windowPlace])), (a_o_now_marks, .inr (0, [.ref a_o_now_marks_numbers, .int o_now_marks_size]))] sz)) 0 0 (va_A [(a_o, .inr (5, [.ref a_o_triangle, .ref a_o_now, .ref a_o_kept, .ref a_o_trial, .ref a_o_reader, .ref a_o_tapes, .int o_hasImage])), (a_o_now, .inr (2, [.ref a_o_triangle, .ref a_o_now_marks, .ref a_o_now_seen, .ref a_o_now_events, .ref a_o_now_book, .int o_now_p, .int o_now_e, .int o_now_modulus, .int o_now_windowRow, .int o_now_windowPlace])), (a_o_now_marks, .inr (0, [.ref a_o_now_marks_numbers, .int o_now_marks_size]))] sz) := by
  refine mu_of (cc := cX6_clear) (maxL := 2) (by decide) rfl (Nat.le_of_ble_eq_true rfl) ?_
  intro p e s m args below meth c Q ls A hx hb hml hown hts hE hP hD hA hrt hlocks hret hl
  have hK := hE.1
  have hS : va_S A s.heap s.heap [] := va_S.rf
  have hl : lv_has ls 2 [(0, .ref a_o)] := hl
  unfold f_X6_clear at hr
  obtain ⟨H, hHe⟩ : ∃ H, H = s.heap := ⟨_, rfl⟩
  obtain ⟨locs, hLe⟩ : ∃ locs : List Loc, locs = [] := ⟨_, rfl⟩
  suffices hgo : va_P (dC, dI) vwCl [(a_o, .inr (5, [.ref a_o_triangle, .ref a_o_now, .ref a_o_kept, .ref a_o_trial, .ref a_o_reader, .ref a_o_tapes, .int o_hasImage])), (a_o_now, .inr (2, [.ref a_o_triangle, .ref a_o_now_marks, .ref a_o_now_seen, .ref a_o_now_events, .ref a_o_now_book, .int o_now_p, .int o_now_e, .int o_now_modulus, .int o_now_windowRow, .int o_now_windowPlace])), (a_o_now_marks, .inr (0, [.ref a_o_now_marks_numbers, .int o_now_marks_size]))] H → va_S A s.heap H locs → W p l e rmX6_clear s m args below meth c H locs 0 0 Q (F0 m 0 ls []) by
    subst hHe; subst hLe; exact hgo hP hS
  clear hP hS hHe hLe
  intro hP hS
  have iX1 : ∀ w ∈ wsX10, w ∈ wsX6_clear := memr_ (big := wsX6_clear) wsX10 [25, 26] (by decide +kernel)
  have iX3 : ∀ w ∈ wsX30, w ∈ wsX6_clear := memr_ (big := wsX6_clear) wsX30 [15, 16, 17, 18, 19, 20, 21, 22, 23, 24] (by decide +kernel)
  have iX6 : ∀ w ∈ wsX60, w ∈ wsX6_clear := memr_ (big := wsX6_clear) wsX60 [8, 9, 10, 11, 12, 13, 14] (by decide +kernel)
  refine lv_aload_n hx hb dX6_clear_0 rfl (lv_at hl 0 rfl) ?_
  refine va_get (D := (dC, dI)) (ci := 5) (v := .ref a_o_now) (C := RX6) (T := TX6) (N := 7) hx hb hts iX6 hown hK hP 0 rfl rfl 1 (by decide) (hts (.fieldLink RX6 23 "PascalRows" "now" "LPascalRows$Setup;") (List.mem_of_getElem? (i := 1) rfl)) (fun _ h9 => h9) rfl dX6_clear_1 ?_
  refine va_getN (host := "PascalRows") (D := (dC, dI)) (ci := 2) (v := .ref a_o_now_marks) (C := RX3) (T := TX3) (N := 10) hx hb hts iX3 hown hK hP 1 rfl rfl 1 (by decide) (hE.nest 7 rfl rfl) (fun _ h9 => h9) rfl dX6_clear_4 ?_
  refine va_getN (host := "PascalRows") (D := (dC, dI)) (ci := 0) (v := .int o_now_marks_size) (C := RX1) (T := TX1) (N := 2) hx hb hts iX1 hown hK hP 2 rfl rfl 1 (by decide) (hE.nest 8 rfl rfl) (fun _ h9 => h9) rfl dX6_clear_7 ?_
  refine lv_istore_n (lv' := [(1, .int o_now_marks_size), (0, .ref a_o)]) hx hb dX6_clear_10 rfl hl (by decide) rfl (fun ls hl => ?_)
  refine lv_aload_n hx hb dX6_clear_11 rfl (lv_at hl 1 rfl) ?_
  refine va_get (D := (dC, dI)) (ci := 5) (v := .ref a_o_now) (C := RX6) (T := TX6) (N := 7) hx hb hts iX6 hown hK hP 0 rfl rfl 1 (by decide) (hts (.fieldLink RX6 23 "PascalRows" "now" "LPascalRows$Setup;") (List.mem_of_getElem? (i := 1) rfl)) (fun _ h9 => h9) rfl dX6_clear_12 ?_
  refine va_getN (host := "PascalRows") (D := (dC, dI)) (ci := 2) (v := .ref a_o_now_marks) (C := RX3) (T := TX3) (N := 10) hx hb hts iX3 hown hK hP 1 rfl rfl 1 (by decide) (hE.nest 7 rfl rfl) (fun _ h9 => h9) rfl dX6_clear_15 ?_
  obtain ⟨u_1, hu_1, hr⟩ := bd_e hr
  refine mu_V ⟨hx, hb, hml, hown, hts⟩ (k_X1_empty l dC dI cI cJ a_o_now_marks a_o_now_marks_numbers o_now_marks_size H.size u_1 hu_1) (cwV 0 hts gX6_clear_X1_empty rfl rfl rfl (by decide +kernel) ⟨Nat.le_of_ble_eq_true rfl, Nat.le_of_ble_eq_true rfl⟩) hE 2 rfl rfl rfl rfl hl.1 rfl (Nat.le_of_ble_eq_true rfl) dX6_clear_18 ⟨Nat.zero_le _, Nat.zero_le _⟩ hP (hD.fst rfl) hS hA [2] [0, 1] [0, 1, 2] rfl rfl (by decide) (by decide) rfl (by decide) (W1 := [(a_o, .inr (5, [.ref a_o_triangle, .ref a_o_now, .ref a_o_kept, .ref a_o_trial, .ref a_o_reader, .ref a_o_tapes, .int o_hasImage])), (a_o_now, .inr (2, [.ref a_o_triangle, .ref a_o_now_marks, .ref a_o_now_seen, .ref a_o_now_events, .ref a_o_now_book, .int o_now_p, .int o_now_e, .int o_now_modulus, .int o_now_windowRow, .int o_now_windowPlace])), (a_o_now_marks, .inr (0, [.ref a_o_now_marks_numbers, .int u_1]))]) rfl (fun H locs hP hS => W.eq (g2 := F0 m 21 ls []) rfl ?_)
  refine lv_iload_n hx hb dX6_clear_21 rfl (lv_at hl 0 rfl) ?_
  obtain rfl := Option.some.inj hr
  exact hret H locs _ hP hS (fun Qc free hq hf => W.iret hx hb hrt hq hf dX6_clear_22 hlocks)
/-! X6_window -/
def rmX6_window : Room := { frames := 1, cells := 0, slots := 0, locals := 22 }
set_option maxHeartbeats 4000000 in
set_option maxRecDepth 100000 in
theorem k_X6_window (l : Launch) (dC : Nat → ClassId) (dI : Nat → Nat → Nat) (cI cJ : ClassId) (a_o : Nat) (a_o_triangle : Nat) (a_o_now : Nat) (a_o_kept : Nat) (a_o_trial : Nat) (a_o_reader : Nat) (a_o_tapes : Nat) (a_o_now_marks : Nat) (a_o_now_seen : Nat) (a_o_now_events : Nat) (a_o_now_book : Nat) (p0 : Int32) (p1 : Int32) (o_hasImage : Int32) (o_now_p : Int32) (o_now_e : Int32) (o_now_modulus : Int32) (o_now_windowRow : Int32) (o_now_windowPlace : Int32) (sz : Nat) (r : Int32 × Int32 × Int32) (hr : f_X6_window p0 p1 o_now_windowRow o_now_windowPlace = some r) : Met l yX6_window wsX6_window rmX6_window (va_Pc [.ref a_o, .int p0, .int p1] (pM (dC, dI) cI cJ [(a_o, .inr (5, [.ref a_o_triangle, .ref a_o_now, .ref a_o_kept, .ref a_o_trial, .ref a_o_reader, .ref a_o_tapes, .int o_hasImage])), (a_o_now, .inr (2, [.ref a_o_triangle, .ref a_o_now_marks, .ref a_o_now_seen, .ref a_o_now_events, .ref a_o_now_book, .int o_now_p, .int o_now_e, .int o_now_modulus, .int o_now_windowRow, .int o_now_windowPlace]))] sz)) (qM (some (.int r.1)) (dC, dI) [(a_o, .inr (5, [.ref a_o_triangle, .ref a_o_now, .ref a_o_kept, .ref a_o_trial, .ref a_o_reader, .ref a_o_tapes, .int o_hasImage])), (a_o_now, .inr (2, [.ref a_o_triangle, .ref a_o_now_marks, .ref a_o_now_seen, .ref a_o_now_events, .ref a_o_now_book, .int o_now_p, .int o_now_e, .int o_now_modulus, .int r.2.1, .int r.2.2]))] (va_A [(a_o, .inr (5, [.ref a_o_triangle, .ref a_o_now, .ref a_o_kept, .ref a_o_trial, .ref a_o_reader, .ref a_o_tapes, .int o_hasImage])), (a_o_now, .inr (2, [.ref a_o_triangle, .ref a_o_now_marks, .ref a_o_now_seen, .ref a_o_now_events, .ref a_o_now_book, .int o_now_p, .int o_now_e, .int o_now_modulus, .int o_now_windowRow, .int o_now_windowPlace]))] sz)) 0 0 (va_A [(a_o, .inr (5, [.ref a_o_triangle, .ref a_o_now, .ref a_o_kept, .ref a_o_trial, .ref a_o_reader, .ref a_o_tapes, .int o_hasImage])), (a_o_now, .inr (2, [.ref a_o_triangle, .ref a_o_now_marks, .ref a_o_now_seen, .ref a_o_now_events, .ref a_o_now_book, .int o_now_p, .int o_now_e, .int o_now_modulus, .int o_now_windowRow, .int o_now_windowPlace]))] sz) := by
  refine mu_of (cc := cX6_window) (maxL := 4) (by decide) rfl (Nat.le_of_ble_eq_true rfl) ?_
  intro p e s m args below meth c Q ls A hx hb hml hown hts hE hP hD hA hrt hlocks hret hl
  have hK := hE.1
  have hS : va_S A s.heap s.heap [] := va_S.rf
  have hl : lv_has ls 4 [(0, .ref a_o), (1, .int p0), (2, .int p1)] := hl
  unfold f_X6_window at hr
  obtain ⟨H, hHe⟩ : ∃ H, H = s.heap := ⟨_, rfl⟩
  obtain ⟨locs, hLe⟩ : ∃ locs : List Loc, locs = [] := ⟨_, rfl⟩
  suffices hgo : va_P (dC, dI) vwCl [(a_o, .inr (5, [.ref a_o_triangle, .ref a_o_now, .ref a_o_kept, .ref a_o_trial, .ref a_o_reader, .ref a_o_tapes, .int o_hasImage])), (a_o_now, .inr (2, [.ref a_o_triangle, .ref a_o_now_marks, .ref a_o_now_seen, .ref a_o_now_events, .ref a_o_now_book, .int o_now_p, .int o_now_e, .int o_now_modulus, .int o_now_windowRow, .int o_now_windowPlace]))] H → va_S A s.heap H locs → W p l e rmX6_window s m args below meth c H locs 0 0 Q (F0 m 0 ls []) by
    subst hHe; subst hLe; exact hgo hP hS
  clear hP hS hHe hLe
  intro hP hS
  have iX3 : ∀ w ∈ wsX30, w ∈ wsX6_window := memr_ (big := wsX6_window) wsX30 [13, 14, 15, 16, 17, 18, 19, 20, 21, 22] (by decide +kernel)
  have iX6 : ∀ w ∈ wsX60, w ∈ wsX6_window := memr_ (big := wsX6_window) wsX60 [6, 7, 8, 9, 10, 11, 12] (by decide +kernel)
  refine lv_iload_n hx hb dX6_window_0 rfl (lv_at hl 1 rfl) ?_
  refine lv_iconst (v := (0 : Int32)) hx hb dX6_window_1 (by decide) ?_
  refine lv_bipush (v := (127 : Int32)) hx hb dX6_window_2 (by decide) ?_
  refine ro_S ⟨hx, hb, hml, hown, hts⟩ (k_X6_isWithin l dC dI cI cJ p0 (0 : Int32) (127 : Int32)) (va_cwS 3 hts gX6_window_X6_isWithin rfl rfl rfl (by decide +kernel) ⟨Nat.le_of_ble_eq_true rfl, Nat.le_of_ble_eq_true rfl⟩) hE (hP.sub [] rfl) rfl hl.1 rfl (Nat.le_of_ble_eq_true rfl) dX6_window_4 ⟨Nat.zero_le _, Nat.zero_le _⟩ ?_
  have tT_2 : (((f_X6_isWithin p0 (0 : Int32) (127 : Int32)) = 0) ∨ ((f_X6_isWithin p1 (0 : Int32) (127 : Int32)) = 0)) → W p l e rmX6_window s m args below meth c H locs 0 0 Q (F0 m 20 ls []) := by
    intro hc_1
    have hr := ite_p hr hc_1
    refine lv_bipush (v := (-2 : Int32)) hx hb dX6_window_20 (by decide) ?_
    obtain rfl := Option.some.inj hr
    exact hret H locs _ hP hS (fun Qc free hq hf => W.iret hx hb hrt hq hf dX6_window_22 hlocks)
  have tF_3 : ¬ (((f_X6_isWithin p0 (0 : Int32) (127 : Int32)) = 0) ∨ ((f_X6_isWithin p1 (0 : Int32) (127 : Int32)) = 0)) → W p l e rmX6_window s m args below meth c H locs 0 0 Q (F0 m 23 ls []) := by
    intro hc_1
    have hr := ite_n hr hc_1
    refine lv_sipush (v := (1000 : Int32)) hx hb dX6_window_23 (by decide) ?_
    refine lv_aload_n hx hb dX6_window_26 rfl (lv_at hl 0 rfl) ?_
    refine va_get (D := (dC, dI)) (ci := 5) (v := .ref a_o_now) (C := RX6) (T := TX6) (N := 7) hx hb hts iX6 hown hK hP 0 rfl rfl 1 (by decide) (hts (.fieldLink RX6 23 "PascalRows" "now" "LPascalRows$Setup;") (List.mem_of_getElem? (i := 1) rfl)) (fun _ h9 => h9) rfl dX6_window_27 ?_
    refine va_getN (host := "PascalRows") (D := (dC, dI)) (ci := 2) (v := .int o_now_windowRow) (C := RX3) (T := TX3) (N := 10) hx hb hts iX3 hown hK hP 1 rfl rfl 8 (by decide) (hE.nest 10 rfl rfl) (fun _ h9 => h9) rfl dX6_window_30 ?_
    refine lv_imul hx hb dX6_window_33 ?_
    refine lv_aload_n hx hb dX6_window_34 rfl (lv_at hl 0 rfl) ?_
    refine va_get (D := (dC, dI)) (ci := 5) (v := .ref a_o_now) (C := RX6) (T := TX6) (N := 7) hx hb hts iX6 hown hK hP 0 rfl rfl 1 (by decide) (hts (.fieldLink RX6 23 "PascalRows" "now" "LPascalRows$Setup;") (List.mem_of_getElem? (i := 1) rfl)) (fun _ h9 => h9) rfl dX6_window_35 ?_
    refine va_getN (host := "PascalRows") (D := (dC, dI)) (ci := 2) (v := .int o_now_windowPlace) (C := RX3) (T := TX3) (N := 10) hx hb hts iX3 hown hK hP 1 rfl rfl 9 (by decide) (hE.nest 11 rfl rfl) (fun _ h9 => h9) rfl dX6_window_38 ?_
    refine lv_iadd hx hb dX6_window_41 ?_
    refine lv_istore_n (lv' := [(3, .int (((1000 : Int32) * o_now_windowRow) + o_now_windowPlace)), (0, .ref a_o), (1, .int p0), (2, .int p1)]) hx hb dX6_window_42 rfl hl (by decide) rfl (fun ls hl => ?_)
    refine lv_aload_n hx hb dX6_window_43 rfl (lv_at hl 1 rfl) ?_
    refine va_get (D := (dC, dI)) (ci := 5) (v := .ref a_o_now) (C := RX6) (T := TX6) (N := 7) hx hb hts iX6 hown hK hP 0 rfl rfl 1 (by decide) (hts (.fieldLink RX6 23 "PascalRows" "now" "LPascalRows$Setup;") (List.mem_of_getElem? (i := 1) rfl)) (fun _ h9 => h9) rfl dX6_window_44 ?_
    refine lv_iload_n hx hb dX6_window_47 rfl (lv_at hl 2 rfl) ?_
    refine va_putN (host := "PascalRows") (D := (dC, dI)) (ci := 2) (v := .int p0) (ty := .int) (C := RX3) (T := TX3) (N := 10) hx hb hts iX3 tyX3 tyX3_ok nmX3 hown hK hP (hD.fst rfl) hS 1 rfl rfl 8 (by decide) (hE.nest 10 rfl rfl) (fun _ h9 => h9) rfl (by decide +kernel) rfl rfl (Nat.le_of_ble_eq_true rfl) dX6_window_48 (fun H locs hP _ hS => ?_)
    have hP : va_P (dC, dI) vwCl [(a_o, .inr (5, [.ref a_o_triangle, .ref a_o_now, .ref a_o_kept, .ref a_o_trial, .ref a_o_reader, .ref a_o_tapes, .int o_hasImage])), (a_o_now, .inr (2, [.ref a_o_triangle, .ref a_o_now_marks, .ref a_o_now_seen, .ref a_o_now_events, .ref a_o_now_book, .int o_now_p, .int o_now_e, .int o_now_modulus, .int p0, .int o_now_windowPlace]))] H := hP
    refine lv_aload_n hx hb dX6_window_51 rfl (lv_at hl 1 rfl) ?_
    refine va_get (D := (dC, dI)) (ci := 5) (v := .ref a_o_now) (C := RX6) (T := TX6) (N := 7) hx hb hts iX6 hown hK hP 0 rfl rfl 1 (by decide) (hts (.fieldLink RX6 23 "PascalRows" "now" "LPascalRows$Setup;") (List.mem_of_getElem? (i := 1) rfl)) (fun _ h9 => h9) rfl dX6_window_52 ?_
    refine lv_iload_n hx hb dX6_window_55 rfl (lv_at hl 3 rfl) ?_
    refine va_putN (host := "PascalRows") (D := (dC, dI)) (ci := 2) (v := .int p1) (ty := .int) (C := RX3) (T := TX3) (N := 10) hx hb hts iX3 tyX3 tyX3_ok nmX3 hown hK hP (hD.fst rfl) hS 1 rfl rfl 9 (by decide) (hE.nest 11 rfl rfl) (fun _ h9 => h9) rfl (by decide +kernel) rfl rfl (Nat.le_of_ble_eq_true rfl) dX6_window_56 (fun H locs hP _ hS => ?_)
    have hP : va_P (dC, dI) vwCl [(a_o, .inr (5, [.ref a_o_triangle, .ref a_o_now, .ref a_o_kept, .ref a_o_trial, .ref a_o_reader, .ref a_o_tapes, .int o_hasImage])), (a_o_now, .inr (2, [.ref a_o_triangle, .ref a_o_now_marks, .ref a_o_now_seen, .ref a_o_now_events, .ref a_o_now_book, .int o_now_p, .int o_now_e, .int o_now_modulus, .int p0, .int p1]))] H := hP
    refine lv_iload_n hx hb dX6_window_59 rfl (lv_at hl 0 rfl) ?_
    obtain rfl := Option.some.inj hr
    exact hret H locs _ hP hS (fun Qc free hq hf => W.iret hx hb hrt hq hf dX6_window_60 hlocks)
  refine lv_if_eq (tgt := 20) hx hb dX6_window_7 (by decide) (fun c_4 => ?_) (fun c_4 => ?_)
  · exact tT_2 (Or.inl c_4)
  · refine lv_iload_n hx hb dX6_window_10 rfl (lv_at hl 2 rfl) ?_
    refine lv_iconst (v := (0 : Int32)) hx hb dX6_window_11 (by decide) ?_
    refine lv_bipush (v := (127 : Int32)) hx hb dX6_window_12 (by decide) ?_
    refine ro_S ⟨hx, hb, hml, hown, hts⟩ (k_X6_isWithin l dC dI cI cJ p1 (0 : Int32) (127 : Int32)) (va_cwS 3 hts gX6_window_X6_isWithin rfl rfl rfl (by decide +kernel) ⟨Nat.le_of_ble_eq_true rfl, Nat.le_of_ble_eq_true rfl⟩) hE (hP.sub [] rfl) rfl hl.1 rfl (Nat.le_of_ble_eq_true rfl) dX6_window_14 ⟨Nat.zero_le _, Nat.zero_le _⟩ ?_
    refine lv_if_ne (tgt := 23) hx hb dX6_window_17 (by decide) (fun c_5 => ?_) (fun c_5 => ?_)
    · exact tF_3 (fun h => h.elim c_4 c_5)
    · exact tT_2 (Or.inr c_5)
/-! X6_feed -/
def rmX6_feed : Room := { frames := 1, cells := 0, slots := 0, locals := 22 }
set_option maxHeartbeats 4000000 in
set_option maxRecDepth 100000 in
theorem k_X6_feed (l : Launch) (dC : Nat → ClassId) (dI : Nat → Nat → Nat) (cI cJ : ClassId) (a_o : Nat) (a_o_triangle : Nat) (a_o_now : Nat) (a_o_kept : Nat) (a_o_trial : Nat) (a_o_reader : Nat) (a_o_tapes : Nat) (a_o_reader_text : Nat) (a_o_reader_clauses : Nat) (p0 : Int32) (o_hasImage : Int32) (o_reader_length : Int32) (o_reader_next : Int32) (o_reader_text : Nat → Int32) (sz : Nat) (r : Int32 × (Nat → Int32) × Int32) (hr : f_X6_feed p0 o_reader_text o_reader_length = some r) : Met l yX6_feed wsX6_feed rmX6_feed (va_Pc [.ref a_o, .int p0] (pM (dC, dI) cI cJ [(a_o, .inr (5, [.ref a_o_triangle, .ref a_o_now, .ref a_o_kept, .ref a_o_trial, .ref a_o_reader, .ref a_o_tapes, .int o_hasImage])), (a_o_reader, .inr (1, [.ref a_o_reader_text, .ref a_o_reader_clauses, .int o_reader_length, .int o_reader_next])), (a_o_reader_text, .inl (cI, 100, .inl o_reader_text))] sz)) (qM (some (.int r.1)) (dC, dI) [(a_o, .inr (5, [.ref a_o_triangle, .ref a_o_now, .ref a_o_kept, .ref a_o_trial, .ref a_o_reader, .ref a_o_tapes, .int o_hasImage])), (a_o_reader, .inr (1, [.ref a_o_reader_text, .ref a_o_reader_clauses, .int r.2.2, .int o_reader_next])), (a_o_reader_text, .inl (cI, 100, .inl r.2.1))] (va_A [(a_o, .inr (5, [.ref a_o_triangle, .ref a_o_now, .ref a_o_kept, .ref a_o_trial, .ref a_o_reader, .ref a_o_tapes, .int o_hasImage])), (a_o_reader, .inr (1, [.ref a_o_reader_text, .ref a_o_reader_clauses, .int o_reader_length, .int o_reader_next])), (a_o_reader_text, .inl (cI, 100, .inl o_reader_text))] sz)) 0 0 (va_A [(a_o, .inr (5, [.ref a_o_triangle, .ref a_o_now, .ref a_o_kept, .ref a_o_trial, .ref a_o_reader, .ref a_o_tapes, .int o_hasImage])), (a_o_reader, .inr (1, [.ref a_o_reader_text, .ref a_o_reader_clauses, .int o_reader_length, .int o_reader_next])), (a_o_reader_text, .inl (cI, 100, .inl o_reader_text))] sz) := by
  refine mu_of (cc := cX6_feed) (maxL := 2) (by decide) rfl (Nat.le_of_ble_eq_true rfl) ?_
  intro p e s m args below meth c Q ls A hx hb hml hown hts hE hP hD hA hrt hlocks hret hl
  have hK := hE.1
  have hS : va_S A s.heap s.heap [] := va_S.rf
  have hl : lv_has ls 2 [(0, .ref a_o), (1, .int p0)] := hl
  unfold f_X6_feed at hr
  obtain ⟨H, hHe⟩ : ∃ H, H = s.heap := ⟨_, rfl⟩
  obtain ⟨locs, hLe⟩ : ∃ locs : List Loc, locs = [] := ⟨_, rfl⟩
  suffices hgo : va_P (dC, dI) vwCl [(a_o, .inr (5, [.ref a_o_triangle, .ref a_o_now, .ref a_o_kept, .ref a_o_trial, .ref a_o_reader, .ref a_o_tapes, .int o_hasImage])), (a_o_reader, .inr (1, [.ref a_o_reader_text, .ref a_o_reader_clauses, .int o_reader_length, .int o_reader_next])), (a_o_reader_text, .inl (cI, 100, .inl o_reader_text))] H → va_S A s.heap H locs → W p l e rmX6_feed s m args below meth c H locs 0 0 Q (F0 m 0 ls []) by
    subst hHe; subst hLe; exact hgo hP hS
  clear hP hS hHe hLe
  intro hP hS
  have iX2 : ∀ w ∈ wsX20, w ∈ wsX6_feed := memr_ (big := wsX6_feed) wsX20 [20, 21, 22, 23] (by decide +kernel)
  have iX6 : ∀ w ∈ wsX60, w ∈ wsX6_feed := memr_ (big := wsX6_feed) wsX60 [13, 14, 15, 16, 17, 18, 19] (by decide +kernel)
  refine lv_iload_n hx hb dX6_feed_0 rfl (lv_at hl 1 rfl) ?_
  refine lv_iconst (v := (0 : Int32)) hx hb dX6_feed_1 (by decide) ?_
  refine lv_bipush (v := (127 : Int32)) hx hb dX6_feed_2 (by decide) ?_
  refine ro_S ⟨hx, hb, hml, hown, hts⟩ (k_X6_isWithin l dC dI cI cJ p0 (0 : Int32) (127 : Int32)) (va_cwS 3 hts gX6_feed_X6_isWithin rfl rfl rfl (by decide +kernel) ⟨Nat.le_of_ble_eq_true rfl, Nat.le_of_ble_eq_true rfl⟩) hE (hP.sub [] rfl) rfl hl.1 rfl (Nat.le_of_ble_eq_true rfl) dX6_feed_4 ⟨Nat.zero_le _, Nat.zero_le _⟩ ?_
  refine lv_if_eq (tgt := 21) hx hb dX6_feed_7 (by decide) (fun c_1 => ?_) (fun c_1 => ?_)
  · have hr := ite_p hr c_1
    refine lv_bipush (v := (-2 : Int32)) hx hb dX6_feed_21 (by decide) ?_
    obtain rfl := Option.some.inj hr
    exact hret H locs _ hP hS (fun Qc free hq hf => W.iret hx hb hrt hq hf dX6_feed_23 hlocks)
  · have hr := ite_n hr c_1
    refine lv_aload_n hx hb dX6_feed_10 rfl (lv_at hl 0 rfl) ?_
    refine va_get (D := (dC, dI)) (ci := 5) (v := .ref a_o_reader) (C := RX6) (T := TX6) (N := 7) hx hb hts iX6 hown hK hP 0 rfl rfl 4 (by decide) (hts (.fieldLink RX6 36 "PascalRows" "reader" "LPascalRows$Reader;") (List.mem_of_getElem? (i := 1) rfl)) (fun _ h9 => h9) rfl dX6_feed_11 ?_
    refine lv_iload_n hx hb dX6_feed_14 rfl (lv_at hl 1 rfl) ?_
    obtain ⟨u_2, hu_2, hr⟩ := bd_e hr
    refine mu_V ⟨hx, hb, hml, hown, hts⟩ (k_X2_add l dC dI cI cJ a_o_reader a_o_reader_text a_o_reader_clauses p0 o_reader_length o_reader_next o_reader_text H.size u_2 hu_2) (cwV 1 hts gX6_feed_X2_add rfl rfl rfl (by decide +kernel) ⟨Nat.le_of_ble_eq_true rfl, Nat.le_of_ble_eq_true rfl⟩) hE 1 rfl rfl rfl rfl hl.1 rfl (Nat.le_of_ble_eq_true rfl) dX6_feed_15 ⟨Nat.zero_le _, Nat.zero_le _⟩ hP (hD.fst rfl) hS hA [1, 2] [0] [0, 1, 2] rfl rfl (by decide) (by decide) rfl (by decide) (W1 := [(a_o, .inr (5, [.ref a_o_triangle, .ref a_o_now, .ref a_o_kept, .ref a_o_trial, .ref a_o_reader, .ref a_o_tapes, .int o_hasImage])), (a_o_reader, .inr (1, [.ref a_o_reader_text, .ref a_o_reader_clauses, .int u_2.2.2, .int o_reader_next])), (a_o_reader_text, .inl (cI, 100, .inl u_2.2.1))]) rfl (fun H locs hP hS => W.eq (g2 := F0 m 18 ls [.int u_2.1]) rfl ?_)
    refine lv_goto (tgt := 23) hx hb dX6_feed_18 (by decide) ?_
    obtain rfl := Option.some.inj hr
    exact hret H locs _ hP hS (fun Qc free hq hf => W.iret hx hb hrt hq hf dX6_feed_23 hlocks)
/-! X6_doClause -/
def rmX6_doClause : Room := { frames := 3, cells := 0, slots := 0, locals := 67 }
set_option maxHeartbeats 4000000 in
set_option maxRecDepth 100000 in
theorem k_X6_doClause (l : Launch) (dC : Nat → ClassId) (dI : Nat → Nat → Nat) (cI cJ : ClassId) (a_o : Nat) (a_o_triangle : Nat) (a_o_now : Nat) (a_o_kept : Nat) (a_o_trial : Nat) (a_o_reader : Nat) (a_o_tapes : Nat) (a_o_now_marks : Nat) (a_o_now_seen : Nat) (a_o_now_events : Nat) (a_o_now_book : Nat) (a_o_now_marks_numbers : Nat) (p0 : Int32) (p1 : Int32) (p2 : Int32) (o_hasImage : Int32) (o_now_p : Int32) (o_now_e : Int32) (o_now_modulus : Int32) (o_now_windowRow : Int32) (o_now_windowPlace : Int32) (o_now_marks_size : Int32) (o_now_marks_numbers : Nat → Int32) (sz : Nat) (r : Int32 × (Nat → Int32) × Int32 × Int32 × Int32 × Int32 × Int32 × Int32) (hr : f_X6_doClause p0 p1 p2 o_now_marks_numbers o_now_marks_size o_now_p o_now_e o_now_modulus o_now_windowRow o_now_windowPlace = some r) : Met l yX6_doClause wsX6_doClause rmX6_doClause (va_Pc [.ref a_o, .int p0, .int p1, .int p2] (pM (dC, dI) cI cJ [(a_o, .inr (5, [.ref a_o_triangle, .ref a_o_now, .ref a_o_kept, .ref a_o_trial, .ref a_o_reader, .ref a_o_tapes, .int o_hasImage])), (a_o_now, .inr (2, [.ref a_o_triangle, .ref a_o_now_marks, .ref a_o_now_seen, .ref a_o_now_events, .ref a_o_now_book, .int o_now_p, .int o_now_e, .int o_now_modulus, .int o_now_windowRow, .int o_now_windowPlace])), (a_o_now_marks, .inr (0, [.ref a_o_now_marks_numbers, .int o_now_marks_size])), (a_o_now_marks_numbers, .inl (cI, 18, .inl o_now_marks_numbers))] sz)) (qM (some (.int r.1)) (dC, dI) [(a_o, .inr (5, [.ref a_o_triangle, .ref a_o_now, .ref a_o_kept, .ref a_o_trial, .ref a_o_reader, .ref a_o_tapes, .int o_hasImage])), (a_o_now, .inr (2, [.ref a_o_triangle, .ref a_o_now_marks, .ref a_o_now_seen, .ref a_o_now_events, .ref a_o_now_book, .int r.2.2.2.1, .int r.2.2.2.2.1, .int r.2.2.2.2.2.1, .int r.2.2.2.2.2.2.1, .int r.2.2.2.2.2.2.2])), (a_o_now_marks, .inr (0, [.ref a_o_now_marks_numbers, .int r.2.2.1])), (a_o_now_marks_numbers, .inl (cI, 18, .inl r.2.1))] (va_A [(a_o, .inr (5, [.ref a_o_triangle, .ref a_o_now, .ref a_o_kept, .ref a_o_trial, .ref a_o_reader, .ref a_o_tapes, .int o_hasImage])), (a_o_now, .inr (2, [.ref a_o_triangle, .ref a_o_now_marks, .ref a_o_now_seen, .ref a_o_now_events, .ref a_o_now_book, .int o_now_p, .int o_now_e, .int o_now_modulus, .int o_now_windowRow, .int o_now_windowPlace])), (a_o_now_marks, .inr (0, [.ref a_o_now_marks_numbers, .int o_now_marks_size])), (a_o_now_marks_numbers, .inl (cI, 18, .inl o_now_marks_numbers))] sz)) 0 0 (va_A [(a_o, .inr (5, [.ref a_o_triangle, .ref a_o_now, .ref a_o_kept, .ref a_o_trial, .ref a_o_reader, .ref a_o_tapes, .int o_hasImage])), (a_o_now, .inr (2, [.ref a_o_triangle, .ref a_o_now_marks, .ref a_o_now_seen, .ref a_o_now_events, .ref a_o_now_book, .int o_now_p, .int o_now_e, .int o_now_modulus, .int o_now_windowRow, .int o_now_windowPlace])), (a_o_now_marks, .inr (0, [.ref a_o_now_marks_numbers, .int o_now_marks_size])), (a_o_now_marks_numbers, .inl (cI, 18, .inl o_now_marks_numbers))] sz) := by
  refine mu_of (cc := cX6_doClause) (maxL := 4) (by decide) rfl (Nat.le_of_ble_eq_true rfl) ?_
  intro p e s m args below meth c Q ls A hx hb hml hown hts hE hP hD hA hrt hlocks hret hl
  have hK := hE.1
  have hS : va_S A s.heap s.heap [] := va_S.rf
  have hl : lv_has ls 4 [(0, .ref a_o), (1, .int p0), (2, .int p1), (3, .int p2)] := hl
  unfold f_X6_doClause at hr
  obtain ⟨H, hHe⟩ : ∃ H, H = s.heap := ⟨_, rfl⟩
  obtain ⟨locs, hLe⟩ : ∃ locs : List Loc, locs = [] := ⟨_, rfl⟩
  suffices hgo : va_P (dC, dI) vwCl [(a_o, .inr (5, [.ref a_o_triangle, .ref a_o_now, .ref a_o_kept, .ref a_o_trial, .ref a_o_reader, .ref a_o_tapes, .int o_hasImage])), (a_o_now, .inr (2, [.ref a_o_triangle, .ref a_o_now_marks, .ref a_o_now_seen, .ref a_o_now_events, .ref a_o_now_book, .int o_now_p, .int o_now_e, .int o_now_modulus, .int o_now_windowRow, .int o_now_windowPlace])), (a_o_now_marks, .inr (0, [.ref a_o_now_marks_numbers, .int o_now_marks_size])), (a_o_now_marks_numbers, .inl (cI, 18, .inl o_now_marks_numbers))] H → va_S A s.heap H locs → W p l e rmX6_doClause s m args below meth c H locs 0 0 Q (F0 m 0 ls []) by
    subst hHe; subst hLe; exact hgo hP hS
  clear hP hS hHe hLe
  intro hP hS
  have iX1 : ∀ w ∈ wsX10, w ∈ wsX6_doClause := memr_ (big := wsX6_doClause) wsX10 [66, 67] (by decide +kernel)
  have iX3 : ∀ w ∈ wsX30, w ∈ wsX6_doClause := memr_ (big := wsX6_doClause) wsX30 [56, 57, 58, 59, 60, 61, 62, 63, 64, 65] (by decide +kernel)
  have iX6 : ∀ w ∈ wsX60, w ∈ wsX6_doClause := memr_ (big := wsX6_doClause) wsX60 [49, 50, 51, 52, 53, 54, 55] (by decide +kernel)
  refine lv_iload_n hx hb dX6_doClause_0 rfl (lv_at hl 1 rfl) ?_
  by_cases c_1 : p0 = (101 : Int32)
  · have hr := ite_p hr c_1
    refine W.eq (g2 := F0 m 1 ls (.int (101 : Int32) :: [])) (congrArg (fun z => F0 m 1 ls (.int z :: [])) c_1) ?_
    refine lv_lookup (tgt := 50) hx hb dX6_doClause_1 (by decide) (by first | rfl | decide) (by decide) ?_
    refine lv_aload_n hx hb dX6_doClause_50 rfl (lv_at hl 0 rfl) ?_
    refine lv_iload_n hx hb dX6_doClause_51 rfl (lv_at hl 2 rfl) ?_
    obtain ⟨u_2, hu_2, hr⟩ := bd_e hr
    refine mu_V ⟨hx, hb, hml, hown, hts⟩ (k_X6_power l dC dI cI cJ a_o a_o_triangle a_o_now a_o_kept a_o_trial a_o_reader a_o_tapes a_o_now_marks a_o_now_seen a_o_now_events a_o_now_book p1 o_hasImage o_now_p o_now_e o_now_modulus o_now_windowRow o_now_windowPlace H.size u_2 hu_2) (cwV 1 hts gX6_doClause_X6_power rfl rfl rfl (by decide +kernel) ⟨Nat.le_of_ble_eq_true rfl, Nat.le_of_ble_eq_true rfl⟩) hE 0 rfl rfl rfl rfl hl.1 rfl (Nat.le_of_ble_eq_true rfl) dX6_doClause_52 ⟨Nat.zero_le _, Nat.zero_le _⟩ hP (hD.fst rfl) hS hA [0, 1] [2, 3] [2, 3, 0, 1] rfl rfl (by decide) (by decide) rfl (by decide) (W1 := [(a_o, .inr (5, [.ref a_o_triangle, .ref a_o_now, .ref a_o_kept, .ref a_o_trial, .ref a_o_reader, .ref a_o_tapes, .int o_hasImage])), (a_o_now, .inr (2, [.ref a_o_triangle, .ref a_o_now_marks, .ref a_o_now_seen, .ref a_o_now_events, .ref a_o_now_book, .int u_2.2.1, .int u_2.2.2.1, .int u_2.2.2.2, .int o_now_windowRow, .int o_now_windowPlace])), (a_o_now_marks, .inr (0, [.ref a_o_now_marks_numbers, .int o_now_marks_size])), (a_o_now_marks_numbers, .inl (cI, 18, .inl o_now_marks_numbers))]) rfl (fun H locs hP hS => W.eq (g2 := F0 m 55 ls [.int u_2.1]) rfl ?_)
    obtain rfl := Option.some.inj hr
    exact hret H locs _ hP hS (fun Qc free hq hf => W.iret hx hb hrt hq hf dX6_doClause_55 hlocks)
  have hr := ite_n hr c_1
  by_cases c_3 : p0 = (109 : Int32)
  · have hr := ite_p hr c_3
    refine W.eq (g2 := F0 m 1 ls (.int (109 : Int32) :: [])) (congrArg (fun z => F0 m 1 ls (.int z :: [])) c_3) ?_
    refine lv_lookup (tgt := 56) hx hb dX6_doClause_1 (by decide) (by first | rfl | decide) (by decide) ?_
    refine lv_aload_n hx hb dX6_doClause_56 rfl (lv_at hl 0 rfl) ?_
    refine lv_iload_n hx hb dX6_doClause_57 rfl (lv_at hl 2 rfl) ?_
    refine lv_iload_n hx hb dX6_doClause_58 rfl (lv_at hl 3 rfl) ?_
    obtain ⟨u_4, hu_4, hr⟩ := bd_e hr
    refine mu_V ⟨hx, hb, hml, hown, hts⟩ (k_X6_mark l dC dI cI cJ a_o a_o_triangle a_o_now a_o_kept a_o_trial a_o_reader a_o_tapes a_o_now_marks a_o_now_seen a_o_now_events a_o_now_book a_o_now_marks_numbers p1 p2 o_hasImage o_now_p o_now_e o_now_modulus o_now_windowRow o_now_windowPlace o_now_marks_size o_now_marks_numbers H.size u_4 hu_4) (cwV 2 hts gX6_doClause_X6_mark rfl rfl rfl (by decide +kernel) ⟨Nat.le_of_ble_eq_true rfl, Nat.le_of_ble_eq_true rfl⟩) hE 0 rfl rfl rfl rfl hl.1 rfl (Nat.le_of_ble_eq_true rfl) dX6_doClause_59 ⟨Nat.zero_le _, Nat.zero_le _⟩ hP (hD.fst rfl) hS hA [0, 1, 2, 3] [] [0, 1, 2, 3] rfl rfl (by decide) (by decide) rfl (by decide) (W1 := [(a_o, .inr (5, [.ref a_o_triangle, .ref a_o_now, .ref a_o_kept, .ref a_o_trial, .ref a_o_reader, .ref a_o_tapes, .int o_hasImage])), (a_o_now, .inr (2, [.ref a_o_triangle, .ref a_o_now_marks, .ref a_o_now_seen, .ref a_o_now_events, .ref a_o_now_book, .int o_now_p, .int o_now_e, .int o_now_modulus, .int o_now_windowRow, .int o_now_windowPlace])), (a_o_now_marks, .inr (0, [.ref a_o_now_marks_numbers, .int u_4.2.2])), (a_o_now_marks_numbers, .inl (cI, 18, .inl u_4.2.1))]) rfl (fun H locs hP hS => W.eq (g2 := F0 m 62 ls [.int u_4.1]) rfl ?_)
    obtain rfl := Option.some.inj hr
    exact hret H locs _ hP hS (fun Qc free hq hf => W.iret hx hb hrt hq hf dX6_doClause_62 hlocks)
  have hr := ite_n hr c_3
  by_cases c_5 : p0 = (112 : Int32)
  · have hr := ite_p hr c_5
    refine W.eq (g2 := F0 m 1 ls (.int (112 : Int32) :: [])) (congrArg (fun z => F0 m 1 ls (.int z :: [])) c_5) ?_
    refine lv_lookup (tgt := 44) hx hb dX6_doClause_1 (by decide) (by first | rfl | decide) (by decide) ?_
    refine lv_aload_n hx hb dX6_doClause_44 rfl (lv_at hl 0 rfl) ?_
    refine lv_iload_n hx hb dX6_doClause_45 rfl (lv_at hl 2 rfl) ?_
    obtain ⟨u_6, hu_6, hr⟩ := bd_e hr
    refine mu_V ⟨hx, hb, hml, hown, hts⟩ (k_X6_prime l dC dI cI cJ a_o a_o_triangle a_o_now a_o_kept a_o_trial a_o_reader a_o_tapes a_o_now_marks a_o_now_seen a_o_now_events a_o_now_book p1 o_hasImage o_now_p o_now_e o_now_modulus o_now_windowRow o_now_windowPlace H.size u_6 hu_6) (cwV 1 hts gX6_doClause_X6_prime rfl rfl rfl (by decide +kernel) ⟨Nat.le_of_ble_eq_true rfl, Nat.le_of_ble_eq_true rfl⟩) hE 0 rfl rfl rfl rfl hl.1 rfl (Nat.le_of_ble_eq_true rfl) dX6_doClause_46 ⟨Nat.zero_le _, Nat.zero_le _⟩ hP (hD.fst rfl) hS hA [0, 1] [2, 3] [2, 3, 0, 1] rfl rfl (by decide) (by decide) rfl (by decide) (W1 := [(a_o, .inr (5, [.ref a_o_triangle, .ref a_o_now, .ref a_o_kept, .ref a_o_trial, .ref a_o_reader, .ref a_o_tapes, .int o_hasImage])), (a_o_now, .inr (2, [.ref a_o_triangle, .ref a_o_now_marks, .ref a_o_now_seen, .ref a_o_now_events, .ref a_o_now_book, .int u_6.2.1, .int u_6.2.2.1, .int u_6.2.2.2, .int o_now_windowRow, .int o_now_windowPlace])), (a_o_now_marks, .inr (0, [.ref a_o_now_marks_numbers, .int o_now_marks_size])), (a_o_now_marks_numbers, .inl (cI, 18, .inl o_now_marks_numbers))]) rfl (fun H locs hP hS => W.eq (g2 := F0 m 49 ls [.int u_6.1]) rfl ?_)
    obtain rfl := Option.some.inj hr
    exact hret H locs _ hP hS (fun Qc free hq hf => W.iret hx hb hrt hq hf dX6_doClause_49 hlocks)
  have hr := ite_n hr c_5
  by_cases c_7 : p0 = (119 : Int32)
  · have hr := ite_p hr c_7
    refine W.eq (g2 := F0 m 1 ls (.int (119 : Int32) :: [])) (congrArg (fun z => F0 m 1 ls (.int z :: [])) c_7) ?_
    refine lv_lookup (tgt := 63) hx hb dX6_doClause_1 (by decide) (by first | rfl | decide) (by decide) ?_
    refine lv_aload_n hx hb dX6_doClause_63 rfl (lv_at hl 0 rfl) ?_
    refine lv_iload_n hx hb dX6_doClause_64 rfl (lv_at hl 2 rfl) ?_
    refine lv_iload_n hx hb dX6_doClause_65 rfl (lv_at hl 3 rfl) ?_
    obtain ⟨u_8, hu_8, hr⟩ := bd_e hr
    refine mu_V ⟨hx, hb, hml, hown, hts⟩ (k_X6_window l dC dI cI cJ a_o a_o_triangle a_o_now a_o_kept a_o_trial a_o_reader a_o_tapes a_o_now_marks a_o_now_seen a_o_now_events a_o_now_book p1 p2 o_hasImage o_now_p o_now_e o_now_modulus o_now_windowRow o_now_windowPlace H.size u_8 hu_8) (cwV 2 hts gX6_doClause_X6_window rfl rfl rfl (by decide +kernel) ⟨Nat.le_of_ble_eq_true rfl, Nat.le_of_ble_eq_true rfl⟩) hE 0 rfl rfl rfl rfl hl.1 rfl (Nat.le_of_ble_eq_true rfl) dX6_doClause_66 ⟨Nat.zero_le _, Nat.zero_le _⟩ hP (hD.fst rfl) hS hA [0, 1] [2, 3] [2, 3, 0, 1] rfl rfl (by decide) (by decide) rfl (by decide) (W1 := [(a_o, .inr (5, [.ref a_o_triangle, .ref a_o_now, .ref a_o_kept, .ref a_o_trial, .ref a_o_reader, .ref a_o_tapes, .int o_hasImage])), (a_o_now, .inr (2, [.ref a_o_triangle, .ref a_o_now_marks, .ref a_o_now_seen, .ref a_o_now_events, .ref a_o_now_book, .int o_now_p, .int o_now_e, .int o_now_modulus, .int u_8.2.1, .int u_8.2.2])), (a_o_now_marks, .inr (0, [.ref a_o_now_marks_numbers, .int o_now_marks_size])), (a_o_now_marks_numbers, .inl (cI, 18, .inl o_now_marks_numbers))]) rfl (fun H locs hP hS => W.eq (g2 := F0 m 69 ls [.int u_8.1]) rfl ?_)
    obtain rfl := Option.some.inj hr
    exact hret H locs _ hP hS (fun Qc free hq hf => W.iret hx hb hrt hq hf dX6_doClause_69 hlocks)
  have hr := ite_n hr c_7
  refine lv_lookup (tgt := 70) hx hb dX6_doClause_1 (by decide) (lks_out (fun k h => ?_)) (by decide) ?_
  · simp only [List.map, List.mem_cons, List.not_mem_nil, or_false] at h
    rcases h with rfl | rfl | rfl | rfl
    · exact i32_ne c_1 rfl
    · exact i32_ne c_3 rfl
    · exact i32_ne c_5 rfl
    · exact i32_ne c_7 rfl
  refine lv_aload_n hx hb dX6_doClause_70 rfl (lv_at hl 0 rfl) ?_
  obtain ⟨u_9, hu_9, hr⟩ := bd_e hr
  refine mu_V ⟨hx, hb, hml, hown, hts⟩ (k_X6_clear l dC dI cI cJ a_o a_o_triangle a_o_now a_o_kept a_o_trial a_o_reader a_o_tapes a_o_now_marks a_o_now_seen a_o_now_events a_o_now_book a_o_now_marks_numbers o_hasImage o_now_p o_now_e o_now_modulus o_now_windowRow o_now_windowPlace o_now_marks_size H.size u_9 hu_9) (cwV 0 hts gX6_doClause_X6_clear rfl rfl rfl (by decide +kernel) ⟨Nat.le_of_ble_eq_true rfl, Nat.le_of_ble_eq_true rfl⟩) hE 0 rfl rfl rfl rfl hl.1 rfl (Nat.le_of_ble_eq_true rfl) dX6_doClause_71 ⟨Nat.zero_le _, Nat.zero_le _⟩ hP (hD.fst rfl) hS hA [0, 1, 2] [3] [1, 2, 3, 0] rfl rfl (by decide) (by decide) rfl (by decide) (W1 := [(a_o, .inr (5, [.ref a_o_triangle, .ref a_o_now, .ref a_o_kept, .ref a_o_trial, .ref a_o_reader, .ref a_o_tapes, .int o_hasImage])), (a_o_now, .inr (2, [.ref a_o_triangle, .ref a_o_now_marks, .ref a_o_now_seen, .ref a_o_now_events, .ref a_o_now_book, .int o_now_p, .int o_now_e, .int o_now_modulus, .int o_now_windowRow, .int o_now_windowPlace])), (a_o_now_marks, .inr (0, [.ref a_o_now_marks_numbers, .int u_9.2])), (a_o_now_marks_numbers, .inl (cI, 18, .inl o_now_marks_numbers))]) rfl (fun H locs hP hS => W.eq (g2 := F0 m 74 ls [.int u_9.1]) rfl ?_)
  obtain rfl := Option.some.inj hr
  exact hret H locs _ hP hS (fun Qc free hq hf => W.iret hx hb hrt hq hf dX6_doClause_74 hlocks)
/-! X6_read -/
def rmX6_read : Room := { frames := 4, cells := 0, slots := 0, locals := 90 }
set_option maxHeartbeats 4000000 in
set_option maxRecDepth 100000 in
theorem k_X6_read (l : Launch) (dC : Nat → ClassId) (dI : Nat → Nat → Nat) (cI cJ : ClassId) (a_o : Nat) (a_o_triangle : Nat) (a_o_now : Nat) (a_o_kept : Nat) (a_o_trial : Nat) (a_o_reader : Nat) (a_o_tapes : Nat) (a_o_now_marks : Nat) (a_o_now_seen : Nat) (a_o_now_events : Nat) (a_o_now_book : Nat) (a_o_now_marks_numbers : Nat) (a_o_reader_text : Nat) (a_o_reader_clauses : Nat) (a_o_reader_clauses_numbers : Nat) (o_hasImage : Int32) (o_now_p : Int32) (o_now_e : Int32) (o_now_modulus : Int32) (o_now_windowRow : Int32) (o_now_windowPlace : Int32) (o_now_marks_size : Int32) (o_now_marks_numbers : Nat → Int32) (o_reader_length : Int32) (o_reader_next : Int32) (o_reader_text : Nat → Int32) (o_reader_clauses_size : Int32) (o_reader_clauses_numbers : Nat → Int32) (sz : Nat) (r : Int32 × (Nat → Int32) × Int32 × Int32 × Int32 × Int32 × Int32 × Int32 × (Nat → Int32) × Int32 × Int32 × Int32) (hr : f_X6_read o_now_marks_numbers o_now_marks_size o_now_p o_now_e o_now_modulus o_now_windowRow o_now_windowPlace o_reader_text o_reader_clauses_numbers o_reader_clauses_size o_reader_length o_reader_next = some r) : Met l yX6_read wsX6_read rmX6_read (va_Pc [.ref a_o] (pM (dC, dI) cI cJ [(a_o, .inr (5, [.ref a_o_triangle, .ref a_o_now, .ref a_o_kept, .ref a_o_trial, .ref a_o_reader, .ref a_o_tapes, .int o_hasImage])), (a_o_now, .inr (2, [.ref a_o_triangle, .ref a_o_now_marks, .ref a_o_now_seen, .ref a_o_now_events, .ref a_o_now_book, .int o_now_p, .int o_now_e, .int o_now_modulus, .int o_now_windowRow, .int o_now_windowPlace])), (a_o_now_marks, .inr (0, [.ref a_o_now_marks_numbers, .int o_now_marks_size])), (a_o_now_marks_numbers, .inl (cI, 18, .inl o_now_marks_numbers)), (a_o_reader, .inr (1, [.ref a_o_reader_text, .ref a_o_reader_clauses, .int o_reader_length, .int o_reader_next])), (a_o_reader_text, .inl (cI, 100, .inl o_reader_text)), (a_o_reader_clauses, .inr (0, [.ref a_o_reader_clauses_numbers, .int o_reader_clauses_size])), (a_o_reader_clauses_numbers, .inl (cI, 36, .inl o_reader_clauses_numbers))] sz)) (qM (some (.int r.1)) (dC, dI) [(a_o, .inr (5, [.ref a_o_triangle, .ref a_o_now, .ref a_o_kept, .ref a_o_trial, .ref a_o_reader, .ref a_o_tapes, .int o_hasImage])), (a_o_now, .inr (2, [.ref a_o_triangle, .ref a_o_now_marks, .ref a_o_now_seen, .ref a_o_now_events, .ref a_o_now_book, .int r.2.2.2.1, .int r.2.2.2.2.1, .int r.2.2.2.2.2.1, .int r.2.2.2.2.2.2.1, .int r.2.2.2.2.2.2.2.1])), (a_o_now_marks, .inr (0, [.ref a_o_now_marks_numbers, .int r.2.2.1])), (a_o_now_marks_numbers, .inl (cI, 18, .inl r.2.1)), (a_o_reader, .inr (1, [.ref a_o_reader_text, .ref a_o_reader_clauses, .int r.2.2.2.2.2.2.2.2.2.2.1, .int r.2.2.2.2.2.2.2.2.2.2.2])), (a_o_reader_text, .inl (cI, 100, .inl o_reader_text)), (a_o_reader_clauses, .inr (0, [.ref a_o_reader_clauses_numbers, .int r.2.2.2.2.2.2.2.2.2.1])), (a_o_reader_clauses_numbers, .inl (cI, 36, .inl r.2.2.2.2.2.2.2.2.1))] (va_A [(a_o, .inr (5, [.ref a_o_triangle, .ref a_o_now, .ref a_o_kept, .ref a_o_trial, .ref a_o_reader, .ref a_o_tapes, .int o_hasImage])), (a_o_now, .inr (2, [.ref a_o_triangle, .ref a_o_now_marks, .ref a_o_now_seen, .ref a_o_now_events, .ref a_o_now_book, .int o_now_p, .int o_now_e, .int o_now_modulus, .int o_now_windowRow, .int o_now_windowPlace])), (a_o_now_marks, .inr (0, [.ref a_o_now_marks_numbers, .int o_now_marks_size])), (a_o_now_marks_numbers, .inl (cI, 18, .inl o_now_marks_numbers)), (a_o_reader, .inr (1, [.ref a_o_reader_text, .ref a_o_reader_clauses, .int o_reader_length, .int o_reader_next])), (a_o_reader_text, .inl (cI, 100, .inl o_reader_text)), (a_o_reader_clauses, .inr (0, [.ref a_o_reader_clauses_numbers, .int o_reader_clauses_size])), (a_o_reader_clauses_numbers, .inl (cI, 36, .inl o_reader_clauses_numbers))] sz)) 0 0 (va_A [(a_o, .inr (5, [.ref a_o_triangle, .ref a_o_now, .ref a_o_kept, .ref a_o_trial, .ref a_o_reader, .ref a_o_tapes, .int o_hasImage])), (a_o_now, .inr (2, [.ref a_o_triangle, .ref a_o_now_marks, .ref a_o_now_seen, .ref a_o_now_events, .ref a_o_now_book, .int o_now_p, .int o_now_e, .int o_now_modulus, .int o_now_windowRow, .int o_now_windowPlace])), (a_o_now_marks, .inr (0, [.ref a_o_now_marks_numbers, .int o_now_marks_size])), (a_o_now_marks_numbers, .inl (cI, 18, .inl o_now_marks_numbers)), (a_o_reader, .inr (1, [.ref a_o_reader_text, .ref a_o_reader_clauses, .int o_reader_length, .int o_reader_next])), (a_o_reader_text, .inl (cI, 100, .inl o_reader_text)), (a_o_reader_clauses, .inr (0, [.ref a_o_reader_clauses_numbers, .int o_reader_clauses_size])), (a_o_reader_clauses_numbers, .inl (cI, 36, .inl o_reader_clauses_numbers))] sz) := by
  refine mu_of (cc := cX6_read) (maxL := 4) (by decide) rfl (Nat.le_of_ble_eq_true rfl) ?_
  intro p e s m args below meth c Q ls A hx hb hml hown hts hE hP hD hA hrt hlocks hret hl
  have hK := hE.1
  have hS : va_S A s.heap s.heap [] := va_S.rf
  have hl : lv_has ls 4 [(0, .ref a_o)] := hl
  unfold f_X6_read at hr
  obtain ⟨H, hHe⟩ : ∃ H, H = s.heap := ⟨_, rfl⟩
  obtain ⟨locs, hLe⟩ : ∃ locs : List Loc, locs = [] := ⟨_, rfl⟩
  suffices hgo : va_P (dC, dI) vwCl [(a_o, .inr (5, [.ref a_o_triangle, .ref a_o_now, .ref a_o_kept, .ref a_o_trial, .ref a_o_reader, .ref a_o_tapes, .int o_hasImage])), (a_o_now, .inr (2, [.ref a_o_triangle, .ref a_o_now_marks, .ref a_o_now_seen, .ref a_o_now_events, .ref a_o_now_book, .int o_now_p, .int o_now_e, .int o_now_modulus, .int o_now_windowRow, .int o_now_windowPlace])), (a_o_now_marks, .inr (0, [.ref a_o_now_marks_numbers, .int o_now_marks_size])), (a_o_now_marks_numbers, .inl (cI, 18, .inl o_now_marks_numbers)), (a_o_reader, .inr (1, [.ref a_o_reader_text, .ref a_o_reader_clauses, .int o_reader_length, .int o_reader_next])), (a_o_reader_text, .inl (cI, 100, .inl o_reader_text)), (a_o_reader_clauses, .inr (0, [.ref a_o_reader_clauses_numbers, .int o_reader_clauses_size])), (a_o_reader_clauses_numbers, .inl (cI, 36, .inl o_reader_clauses_numbers))] H → va_S A s.heap H locs → W p l e rmX6_read s m args below meth c H locs 0 0 Q (F0 m 0 ls []) by
    subst hHe; subst hLe; exact hgo hP hS
  clear hP hS hHe hLe
  intro hP hS
  have iX1 : ∀ w ∈ wsX10, w ∈ wsX6_read := memr_ (big := wsX6_read) wsX10 [104, 105] (by decide +kernel)
  have iX2 : ∀ w ∈ wsX20, w ∈ wsX6_read := memr_ (big := wsX6_read) wsX20 [100, 101, 102, 103] (by decide +kernel)
  have iX3 : ∀ w ∈ wsX30, w ∈ wsX6_read := memr_ (big := wsX6_read) wsX30 [106, 107, 108, 109, 110, 111, 112, 113, 114, 115] (by decide +kernel)
  have iX6 : ∀ w ∈ wsX60, w ∈ wsX6_read := memr_ (big := wsX6_read) wsX60 [93, 94, 95, 96, 97, 98, 99] (by decide +kernel)
  refine lv_aload_n hx hb dX6_read_0 rfl (lv_at hl 0 rfl) ?_
  refine va_get (D := (dC, dI)) (ci := 5) (v := .ref a_o_reader) (C := RX6) (T := TX6) (N := 7) hx hb hts iX6 hown hK hP 0 rfl rfl 4 (by decide) (hts (.fieldLink RX6 36 "PascalRows" "reader" "LPascalRows$Reader;") (List.mem_of_getElem? (i := 1) rfl)) (fun _ h9 => h9) rfl dX6_read_1 ?_
  obtain ⟨u_1, hu_1, hr⟩ := bd_e hr
  refine mu_V ⟨hx, hb, hml, hown, hts⟩ (k_X2_faultOfText l dC dI cI cJ a_o_reader a_o_reader_text a_o_reader_clauses a_o_reader_clauses_numbers o_reader_length o_reader_next o_reader_text o_reader_clauses_size o_reader_clauses_numbers H.size u_1 hu_1) (cwV 0 hts gX6_read_X2_faultOfText rfl rfl rfl (by decide +kernel) ⟨Nat.le_of_ble_eq_true rfl, Nat.le_of_ble_eq_true rfl⟩) hE 4 rfl rfl rfl rfl hl.1 rfl (Nat.le_of_ble_eq_true rfl) dX6_read_4 ⟨Nat.zero_le _, Nat.zero_le _⟩ hP (hD.fst rfl) hS hA [4, 5, 6, 7] [0, 1, 2, 3] [0, 1, 2, 3, 4, 5, 6, 7] rfl rfl (by decide) (by decide) rfl (by decide) (W1 := [(a_o, .inr (5, [.ref a_o_triangle, .ref a_o_now, .ref a_o_kept, .ref a_o_trial, .ref a_o_reader, .ref a_o_tapes, .int o_hasImage])), (a_o_now, .inr (2, [.ref a_o_triangle, .ref a_o_now_marks, .ref a_o_now_seen, .ref a_o_now_events, .ref a_o_now_book, .int o_now_p, .int o_now_e, .int o_now_modulus, .int o_now_windowRow, .int o_now_windowPlace])), (a_o_now_marks, .inr (0, [.ref a_o_now_marks_numbers, .int o_now_marks_size])), (a_o_now_marks_numbers, .inl (cI, 18, .inl o_now_marks_numbers)), (a_o_reader, .inr (1, [.ref a_o_reader_text, .ref a_o_reader_clauses, .int o_reader_length, .int u_1.2.2.2])), (a_o_reader_text, .inl (cI, 100, .inl o_reader_text)), (a_o_reader_clauses, .inr (0, [.ref a_o_reader_clauses_numbers, .int u_1.2.2.1])), (a_o_reader_clauses_numbers, .inl (cI, 36, .inl u_1.2.1))]) rfl (fun H locs hP hS => W.eq (g2 := F0 m 7 ls [.int u_1.1]) rfl ?_)
  refine lv_istore_n (lv' := [(1, .int u_1.1), (0, .ref a_o)]) hx hb dX6_read_7 rfl hl (by decide) rfl (fun ls hl => ?_)
  refine lv_aload_n hx hb dX6_read_8 rfl (lv_at hl 1 rfl) ?_
  refine va_get (D := (dC, dI)) (ci := 5) (v := .ref a_o_reader) (C := RX6) (T := TX6) (N := 7) hx hb hts iX6 hown hK hP 0 rfl rfl 4 (by decide) (hts (.fieldLink RX6 36 "PascalRows" "reader" "LPascalRows$Reader;") (List.mem_of_getElem? (i := 1) rfl)) (fun _ h9 => h9) rfl dX6_read_9 ?_
  obtain ⟨u_2, hu_2, hr⟩ := bd_e hr
  refine mu_V ⟨hx, hb, hml, hown, hts⟩ (k_X2_emptyText l dC dI cI cJ a_o_reader a_o_reader_text a_o_reader_clauses o_reader_length u_1.2.2.2 H.size u_2 hu_2) (cwV 0 hts gX6_read_X2_emptyText rfl rfl rfl (by decide +kernel) ⟨Nat.le_of_ble_eq_true rfl, Nat.le_of_ble_eq_true rfl⟩) hE 4 rfl rfl rfl rfl hl.1 rfl (Nat.le_of_ble_eq_true rfl) dX6_read_12 ⟨Nat.zero_le _, Nat.zero_le _⟩ hP (hD.fst rfl) hS hA [4] [0, 1, 2, 3, 5, 6, 7] [0, 1, 2, 3, 7, 4, 5, 6] rfl rfl (by decide) (by decide) rfl (by decide) (W1 := [(a_o, .inr (5, [.ref a_o_triangle, .ref a_o_now, .ref a_o_kept, .ref a_o_trial, .ref a_o_reader, .ref a_o_tapes, .int o_hasImage])), (a_o_now, .inr (2, [.ref a_o_triangle, .ref a_o_now_marks, .ref a_o_now_seen, .ref a_o_now_events, .ref a_o_now_book, .int o_now_p, .int o_now_e, .int o_now_modulus, .int o_now_windowRow, .int o_now_windowPlace])), (a_o_now_marks, .inr (0, [.ref a_o_now_marks_numbers, .int o_now_marks_size])), (a_o_now_marks_numbers, .inl (cI, 18, .inl o_now_marks_numbers)), (a_o_reader, .inr (1, [.ref a_o_reader_text, .ref a_o_reader_clauses, .int u_2, .int u_1.2.2.2])), (a_o_reader_text, .inl (cI, 100, .inl o_reader_text)), (a_o_reader_clauses, .inr (0, [.ref a_o_reader_clauses_numbers, .int u_1.2.2.1])), (a_o_reader_clauses_numbers, .inl (cI, 36, .inl u_1.2.1))]) rfl (fun H locs hP hS => W.eq (g2 := F0 m 15 ls []) rfl ?_)
  refine lv_iload_n hx hb dX6_read_15 rfl (lv_at hl 0 rfl) ?_
  refine lv_iconst (v := (-1 : Int32)) hx hb dX6_read_16 (by decide) ?_
  refine lv_icmp_eq (tgt := 25) hx hb dX6_read_17 (by decide) (fun c_3 => ?_) (fun c_3 => ?_)
  · have hr := ite_p hr c_3
    refine lv_iconst (v := (0 : Int32)) hx hb dX6_read_25 (by decide) ?_
    refine lv_istore_n (lv' := [(2, .int (0 : Int32)), (1, .int u_1.1), (0, .ref a_o)]) hx hb dX6_read_26 rfl hl (by decide) rfl (fun ls hl => ?_)
    refine lv_iconst (v := (0 : Int32)) hx hb dX6_read_27 (by decide) ?_
    refine lv_istore_n (lv' := [(3, .int (0 : Int32)), (2, .int (0 : Int32)), (1, .int u_1.1), (0, .ref a_o)]) hx hb dX6_read_28 rfl hl (by decide) rfl (fun ls hl => ?_)
    have hL29 : ∀ (o_reader_clauses_numbers_29 : Nat → Int32) (o_reader_clauses_size_29 : Int32) (o_reader_length_29 : Int32) (o_reader_next_29 : Int32) (k_29 : Int32 → (Nat → Int32) → (Int32) → (Int32) → (Int32) → (Int32) → (Int32) → (Int32) → Option (Int32 × (Nat → Int32) × Int32 × Int32 × Int32 × Int32 × Int32 × Int32 × (Nat → Int32) × Int32 × Int32 × Int32)) (hk : ∀ (x2_29 : Int32) (xc_o_now_marks_numbers_29 : Nat → Int32) (xc_o_now_marks_size_29 : Int32) (xc_o_now_p_29 : Int32) (xc_o_now_e_29 : Int32) (xc_o_now_modulus_29 : Int32) (xc_o_now_windowRow_29 : Int32) (xc_o_now_windowPlace_29 : Int32) (ls : Array Slot), lv_has ls 4 [(2, .int x2_29)] → ∀ (H : Heap) (locs : List Loc), va_P (dC, dI) vwCl [(a_o, .inr (5, [.ref a_o_triangle, .ref a_o_now, .ref a_o_kept, .ref a_o_trial, .ref a_o_reader, .ref a_o_tapes, .int o_hasImage])), (a_o_now, .inr (2, [.ref a_o_triangle, .ref a_o_now_marks, .ref a_o_now_seen, .ref a_o_now_events, .ref a_o_now_book, .int xc_o_now_p_29, .int xc_o_now_e_29, .int xc_o_now_modulus_29, .int xc_o_now_windowRow_29, .int xc_o_now_windowPlace_29])), (a_o_now_marks, .inr (0, [.ref a_o_now_marks_numbers, .int xc_o_now_marks_size_29])), (a_o_now_marks_numbers, .inl (cI, 18, .inl xc_o_now_marks_numbers_29)), (a_o_reader, .inr (1, [.ref a_o_reader_text, .ref a_o_reader_clauses, .int o_reader_length_29, .int o_reader_next_29])), (a_o_reader_text, .inl (cI, 100, .inl o_reader_text)), (a_o_reader_clauses, .inr (0, [.ref a_o_reader_clauses_numbers, .int o_reader_clauses_size_29])), (a_o_reader_clauses_numbers, .inl (cI, 36, .inl o_reader_clauses_numbers_29))] H → va_S A s.heap H locs →  k_29 x2_29 xc_o_now_marks_numbers_29 xc_o_now_marks_size_29 xc_o_now_p_29 xc_o_now_e_29 xc_o_now_modulus_29 xc_o_now_windowRow_29 xc_o_now_windowPlace_29 = some r → W p l e rmX6_read s m args below meth c H locs 0 0 Q (F0 m 95 ls [])) (fuel : Nat) (v2_29 : Int32) (v3_29 : Int32) (o_now_marks_numbers_29 : Nat → Int32) (o_now_marks_size_29 : Int32) (o_now_p_29 : Int32) (o_now_e_29 : Int32) (o_now_modulus_29 : Int32) (o_now_windowRow_29 : Int32) (o_now_windowPlace_29 : Int32) (ls : Array Slot), lv_has ls 4 [(0, .ref a_o), (2, .int v2_29), (3, .int v3_29)] → ∀ (H : Heap) (locs : List Loc), va_P (dC, dI) vwCl [(a_o, .inr (5, [.ref a_o_triangle, .ref a_o_now, .ref a_o_kept, .ref a_o_trial, .ref a_o_reader, .ref a_o_tapes, .int o_hasImage])), (a_o_now, .inr (2, [.ref a_o_triangle, .ref a_o_now_marks, .ref a_o_now_seen, .ref a_o_now_events, .ref a_o_now_book, .int o_now_p_29, .int o_now_e_29, .int o_now_modulus_29, .int o_now_windowRow_29, .int o_now_windowPlace_29])), (a_o_now_marks, .inr (0, [.ref a_o_now_marks_numbers, .int o_now_marks_size_29])), (a_o_now_marks_numbers, .inl (cI, 18, .inl o_now_marks_numbers_29)), (a_o_reader, .inr (1, [.ref a_o_reader_text, .ref a_o_reader_clauses, .int o_reader_length_29, .int o_reader_next_29])), (a_o_reader_text, .inl (cI, 100, .inl o_reader_text)), (a_o_reader_clauses, .inr (0, [.ref a_o_reader_clauses_numbers, .int o_reader_clauses_size_29])), (a_o_reader_clauses_numbers, .inl (cI, 36, .inl o_reader_clauses_numbers_29))] H → va_S A s.heap H locs → f_X6_read_L29 k_29 o_reader_clauses_numbers_29 o_reader_clauses_size_29 fuel v2_29 v3_29 o_now_marks_numbers_29 o_now_marks_size_29 o_now_p_29 o_now_e_29 o_now_modulus_29 o_now_windowRow_29 o_now_windowPlace_29 = some r → W p l e rmX6_read s m args below meth c H locs 0 0 Q (F0 m 29 ls []) := by
      intro o_reader_clauses_numbers_29 o_reader_clauses_size_29 o_reader_length_29 o_reader_next_29 k_29 hk fuel
      induction fuel with
      | zero =>
        intro v2_29 v3_29 o_now_marks_numbers_29 o_now_marks_size_29 o_now_p_29 o_now_e_29 o_now_modulus_29 o_now_windowRow_29 o_now_windowPlace_29 ls hl H locs hP hS hr
        rw [f_X6_read_L29_z] at hr
        cases hr
      | succ fuel ih =>
        intro v2_29 v3_29 o_now_marks_numbers_29 o_now_marks_size_29 o_now_p_29 o_now_e_29 o_now_modulus_29 o_now_windowRow_29 o_now_windowPlace_29 ls hl H locs hP hS hr
        rw [f_X6_read_L29_s] at hr
        refine lv_iload_n hx hb dX6_read_29 rfl (lv_at hl 2 rfl) ?_
        refine lv_aload_n hx hb dX6_read_30 rfl (lv_at hl 0 rfl) ?_
        refine va_get (D := (dC, dI)) (ci := 5) (v := .ref a_o_reader) (C := RX6) (T := TX6) (N := 7) hx hb hts iX6 hown hK hP 0 rfl rfl 4 (by decide) (hts (.fieldLink RX6 36 "PascalRows" "reader" "LPascalRows$Reader;") (List.mem_of_getElem? (i := 1) rfl)) (fun _ h9 => h9) rfl dX6_read_31 ?_
        refine va_getN (host := "PascalRows") (D := (dC, dI)) (ci := 1) (v := .ref a_o_reader_clauses) (C := RX2) (T := TX2) (N := 4) hx hb hts iX2 hown hK hP 4 rfl rfl 1 (by decide) (hE.nest 12 rfl rfl) (fun _ h9 => h9) rfl dX6_read_34 ?_
        refine va_getN (host := "PascalRows") (D := (dC, dI)) (ci := 0) (v := .int o_reader_clauses_size_29) (C := RX1) (T := TX1) (N := 2) hx hb hts iX1 hown hK hP 6 rfl rfl 1 (by decide) (hE.nest 8 rfl rfl) (fun _ h9 => h9) rfl dX6_read_37 ?_
        refine lv_icmp_ge (tgt := 95) hx hb dX6_read_40 (by decide) (fun c_4 => ?_) (fun c_4 => ?_)
        · have hr := ite_p hr c_4
          exact hk v2_29 o_now_marks_numbers_29 o_now_marks_size_29 o_now_p_29 o_now_e_29 o_now_modulus_29 o_now_windowRow_29 o_now_windowPlace_29 ls (lv_sub hl [1] rfl) H locs hP hS hr
        · have hr := ite_n hr c_4
          refine lv_aload_n hx hb dX6_read_43 rfl (lv_at hl 0 rfl) ?_
          refine lv_aload_n hx hb dX6_read_44 rfl (lv_at hl 0 rfl) ?_
          refine va_get (D := (dC, dI)) (ci := 5) (v := .ref a_o_reader) (C := RX6) (T := TX6) (N := 7) hx hb hts iX6 hown hK hP 0 rfl rfl 4 (by decide) (hts (.fieldLink RX6 36 "PascalRows" "reader" "LPascalRows$Reader;") (List.mem_of_getElem? (i := 1) rfl)) (fun _ h9 => h9) rfl dX6_read_45 ?_
          refine va_getN (host := "PascalRows") (D := (dC, dI)) (ci := 1) (v := .ref a_o_reader_clauses) (C := RX2) (T := TX2) (N := 4) hx hb hts iX2 hown hK hP 4 rfl rfl 1 (by decide) (hE.nest 12 rfl rfl) (fun _ h9 => h9) rfl dX6_read_48 ?_
          refine lv_iload_n hx hb dX6_read_51 rfl (lv_at hl 2 rfl) ?_
          refine lv_iconst (v := (0 : Int32)) hx hb dX6_read_52 (by decide) ?_
          obtain ⟨u_5, hu_5, hr⟩ := bd_e hr
          refine ro_V ⟨hx, hb, hml, hown, hts⟩ (k_X1_number l dC dI cI cJ a_o_reader_clauses a_o_reader_clauses_numbers v3_29 (0 : Int32) 36 o_reader_clauses_size_29 o_reader_clauses_numbers_29 u_5 hu_5) (cwV 2 hts gX6_read_X1_number rfl rfl rfl (by decide +kernel) ⟨Nat.le_of_ble_eq_true rfl, Nat.le_of_ble_eq_true rfl⟩) hE hP 6 rfl rfl rfl (hP.sub [6, 7] rfl) rfl hl.1 rfl (Nat.le_of_ble_eq_true rfl) dX6_read_53 ⟨Nat.zero_le _, Nat.zero_le _⟩ ?_
          refine lv_aload_n hx hb dX6_read_56 rfl (lv_at hl 0 rfl) ?_
          refine va_get (D := (dC, dI)) (ci := 5) (v := .ref a_o_reader) (C := RX6) (T := TX6) (N := 7) hx hb hts iX6 hown hK hP 0 rfl rfl 4 (by decide) (hts (.fieldLink RX6 36 "PascalRows" "reader" "LPascalRows$Reader;") (List.mem_of_getElem? (i := 1) rfl)) (fun _ h9 => h9) rfl dX6_read_57 ?_
          refine va_getN (host := "PascalRows") (D := (dC, dI)) (ci := 1) (v := .ref a_o_reader_clauses) (C := RX2) (T := TX2) (N := 4) hx hb hts iX2 hown hK hP 4 rfl rfl 1 (by decide) (hE.nest 12 rfl rfl) (fun _ h9 => h9) rfl dX6_read_60 ?_
          refine lv_iload_n hx hb dX6_read_63 rfl (lv_at hl 2 rfl) ?_
          refine lv_iconst (v := (1 : Int32)) hx hb dX6_read_64 (by decide) ?_
          obtain ⟨u_6, hu_6, hr⟩ := bd_e hr
          refine ro_V ⟨hx, hb, hml, hown, hts⟩ (k_X1_number l dC dI cI cJ a_o_reader_clauses a_o_reader_clauses_numbers v3_29 (1 : Int32) 36 o_reader_clauses_size_29 o_reader_clauses_numbers_29 u_6 hu_6) (cwV 2 hts gX6_read_X1_number rfl rfl rfl (by decide +kernel) ⟨Nat.le_of_ble_eq_true rfl, Nat.le_of_ble_eq_true rfl⟩) hE hP 6 rfl rfl rfl (hP.sub [6, 7] rfl) rfl hl.1 rfl (Nat.le_of_ble_eq_true rfl) dX6_read_65 ⟨Nat.zero_le _, Nat.zero_le _⟩ ?_
          refine lv_aload_n hx hb dX6_read_68 rfl (lv_at hl 0 rfl) ?_
          refine va_get (D := (dC, dI)) (ci := 5) (v := .ref a_o_reader) (C := RX6) (T := TX6) (N := 7) hx hb hts iX6 hown hK hP 0 rfl rfl 4 (by decide) (hts (.fieldLink RX6 36 "PascalRows" "reader" "LPascalRows$Reader;") (List.mem_of_getElem? (i := 1) rfl)) (fun _ h9 => h9) rfl dX6_read_69 ?_
          refine va_getN (host := "PascalRows") (D := (dC, dI)) (ci := 1) (v := .ref a_o_reader_clauses) (C := RX2) (T := TX2) (N := 4) hx hb hts iX2 hown hK hP 4 rfl rfl 1 (by decide) (hE.nest 12 rfl rfl) (fun _ h9 => h9) rfl dX6_read_72 ?_
          refine lv_iload_n hx hb dX6_read_75 rfl (lv_at hl 2 rfl) ?_
          refine lv_iconst (v := (2 : Int32)) hx hb dX6_read_76 (by decide) ?_
          obtain ⟨u_7, hu_7, hr⟩ := bd_e hr
          refine ro_V ⟨hx, hb, hml, hown, hts⟩ (k_X1_number l dC dI cI cJ a_o_reader_clauses a_o_reader_clauses_numbers v3_29 (2 : Int32) 36 o_reader_clauses_size_29 o_reader_clauses_numbers_29 u_7 hu_7) (cwV 2 hts gX6_read_X1_number rfl rfl rfl (by decide +kernel) ⟨Nat.le_of_ble_eq_true rfl, Nat.le_of_ble_eq_true rfl⟩) hE hP 6 rfl rfl rfl (hP.sub [6, 7] rfl) rfl hl.1 rfl (Nat.le_of_ble_eq_true rfl) dX6_read_77 ⟨Nat.zero_le _, Nat.zero_le _⟩ ?_
          obtain ⟨u_8, hu_8, hr⟩ := bd_e hr
          refine mu_V ⟨hx, hb, hml, hown, hts⟩ (k_X6_doClause l dC dI cI cJ a_o a_o_triangle a_o_now a_o_kept a_o_trial a_o_reader a_o_tapes a_o_now_marks a_o_now_seen a_o_now_events a_o_now_book a_o_now_marks_numbers u_5 u_6 u_7 o_hasImage o_now_p_29 o_now_e_29 o_now_modulus_29 o_now_windowRow_29 o_now_windowPlace_29 o_now_marks_size_29 o_now_marks_numbers_29 H.size u_8 hu_8) (cwV 3 hts gX6_read_X6_doClause rfl rfl rfl (by decide +kernel) ⟨Nat.le_of_ble_eq_true rfl, Nat.le_of_ble_eq_true rfl⟩) hE 0 rfl rfl rfl rfl hl.1 rfl (Nat.le_of_ble_eq_true rfl) dX6_read_80 ⟨Nat.zero_le _, Nat.zero_le _⟩ hP (hD.fst rfl) hS hA [0, 1, 2, 3] [4, 5, 6, 7] [4, 5, 6, 7, 0, 1, 2, 3] rfl rfl (by decide) (by decide) rfl (by decide) (W1 := [(a_o, .inr (5, [.ref a_o_triangle, .ref a_o_now, .ref a_o_kept, .ref a_o_trial, .ref a_o_reader, .ref a_o_tapes, .int o_hasImage])), (a_o_now, .inr (2, [.ref a_o_triangle, .ref a_o_now_marks, .ref a_o_now_seen, .ref a_o_now_events, .ref a_o_now_book, .int u_8.2.2.2.1, .int u_8.2.2.2.2.1, .int u_8.2.2.2.2.2.1, .int u_8.2.2.2.2.2.2.1, .int u_8.2.2.2.2.2.2.2])), (a_o_now_marks, .inr (0, [.ref a_o_now_marks_numbers, .int u_8.2.2.1])), (a_o_now_marks_numbers, .inl (cI, 18, .inl u_8.2.1)), (a_o_reader, .inr (1, [.ref a_o_reader_text, .ref a_o_reader_clauses, .int o_reader_length_29, .int o_reader_next_29])), (a_o_reader_text, .inl (cI, 100, .inl o_reader_text)), (a_o_reader_clauses, .inr (0, [.ref a_o_reader_clauses_numbers, .int o_reader_clauses_size_29])), (a_o_reader_clauses_numbers, .inl (cI, 36, .inl o_reader_clauses_numbers_29))]) rfl (fun H locs hP hS => W.eq (g2 := F0 m 83 ls [.int u_8.1]) rfl ?_)
          have hJ_9 : ∀ (y_10 : Int32) (ey_10 : y_10 = (if (u_8.1 < 0) then v2_29 else (v2_29 + (1 : Int32)))) (ls : Array Slot), lv_has ls 4 [(0, .ref a_o), (2, .int y_10), (3, .int v3_29)] → W p l e rmX6_read s m args below meth c H locs 0 0 Q (F0 m 89 ls []) := by
            intro y_10 ey_10 ls hl
            subst ey_10
            refine lv_iinc (v := (v3_29 + (1 : Int32))) (lv' := [(3, .int (v3_29 + (1 : Int32))), (0, .ref a_o), (2, .int (if (u_8.1 < 0) then v2_29 else (v2_29 + (1 : Int32))))]) hx hb dX6_read_89 hl (k := 2) rfl (congrArg (fun z => v3_29 + z) (by decide)) (by decide) rfl (fun ls hl => ?_)
            refine lv_goto (tgt := 29) hx hb dX6_read_92 (by decide) ?_
            exact ih (if (u_8.1 < 0) then v2_29 else (v2_29 + (1 : Int32))) (v3_29 + (1 : Int32)) u_8.2.1 u_8.2.2.1 u_8.2.2.2.1 u_8.2.2.2.2.1 u_8.2.2.2.2.2.1 u_8.2.2.2.2.2.2.1 u_8.2.2.2.2.2.2.2 ls (lv_sub hl [1, 2, 0] rfl) H locs hP hS hr
          refine lv_if_lt (tgt := 89) hx hb dX6_read_83 (by decide) (fun c_11 => ?_) (fun c_11 => ?_)
          · exact hJ_9 _ (if_pos c_11).symm ls (lv_sub hl [0, 1, 2] rfl)
          · refine lv_iinc (v := (v2_29 + (1 : Int32))) (lv' := [(2, .int (v2_29 + (1 : Int32))), (0, .ref a_o), (3, .int v3_29)]) hx hb dX6_read_86 hl (k := 1) rfl (congrArg (fun z => v2_29 + z) (by decide)) (by decide) rfl (fun ls hl => ?_)
            exact hJ_9 _ (if_neg c_11).symm ls (lv_sub hl [1, 0, 2] rfl)
    refine hL29 u_1.2.1 u_1.2.2.1 u_2 u_1.2.2.2 _ (fun x2_29 xc_o_now_marks_numbers_29 xc_o_now_marks_size_29 xc_o_now_p_29 xc_o_now_e_29 xc_o_now_modulus_29 xc_o_now_windowRow_29 xc_o_now_windowPlace_29 ls hl H locs hP hS hr => ?_) 5000 (0 : Int32) (0 : Int32) o_now_marks_numbers o_now_marks_size o_now_p o_now_e o_now_modulus o_now_windowRow o_now_windowPlace ls (lv_sub hl [3, 1, 0] rfl) H locs hP hS hr
    refine lv_iload_n hx hb dX6_read_95 rfl (lv_at hl 0 rfl) ?_
    obtain rfl := Option.some.inj hr
    exact hret H locs _ hP hS (fun Qc free hq hf => W.iret hx hb hrt hq hf dX6_read_96 hlocks)
  · have hr := ite_n hr c_3
    refine lv_bipush (v := (-10 : Int32)) hx hb dX6_read_20 (by decide) ?_
    refine lv_iload_n hx hb dX6_read_22 rfl (lv_at hl 0 rfl) ?_
    refine lv_isub hx hb dX6_read_23 ?_
    obtain rfl := Option.some.inj hr
    exact hret H locs _ hP hS (fun Qc free hq hf => W.iret hx hb hrt hq hf dX6_read_24 hlocks)
/-! X6_told -/
def rmX6_told : Room := { frames := 6, cells := 0, slots := 0, locals := 142 }
set_option maxHeartbeats 4000000 in
set_option maxRecDepth 100000 in
theorem k_X6_told (l : Launch) (dC : Nat → ClassId) (dI : Nat → Nat → Nat) (cI cJ : ClassId) (a_o : Nat) (a_o_triangle : Nat) (a_o_now : Nat) (a_o_kept : Nat) (a_o_trial : Nat) (a_o_reader : Nat) (a_o_tapes : Nat) (a_o_triangle_halves : Nat) (a_o_now_marks : Nat) (a_o_now_seen : Nat) (a_o_now_events : Nat) (a_o_now_book : Nat) (a_o_now_marks_numbers : Nat) (p0 : Int32) (o_hasImage : Int32) (o_triangle_halves : Nat → Int32) (o_now_p : Int32) (o_now_e : Int32) (o_now_modulus : Int32) (o_now_windowRow : Int32) (o_now_windowPlace : Int32) (o_now_marks_size : Int32) (o_now_marks_numbers : Nat → Int32) (r : Int32) (hr : f_X6_told p0 o_triangle_halves o_now_marks_numbers o_now_marks_size o_now_p o_now_e o_now_modulus o_now_windowRow o_now_windowPlace = some r) : Met l yX6_told wsX6_told rmX6_told (va_Pc [.ref a_o, .int p0] (pE (dC, dI) cI cJ [(a_o, .inr (5, [.ref a_o_triangle, .ref a_o_now, .ref a_o_kept, .ref a_o_trial, .ref a_o_reader, .ref a_o_tapes, .int o_hasImage])), (a_o_triangle, .inr (4, [.ref a_o_triangle_halves])), (a_o_triangle_halves, .inl (cI, 4160, .inl o_triangle_halves)), (a_o_now, .inr (2, [.ref a_o_triangle, .ref a_o_now_marks, .ref a_o_now_seen, .ref a_o_now_events, .ref a_o_now_book, .int o_now_p, .int o_now_e, .int o_now_modulus, .int o_now_windowRow, .int o_now_windowPlace])), (a_o_now_marks, .inr (0, [.ref a_o_now_marks_numbers, .int o_now_marks_size])), (a_o_now_marks_numbers, .inl (cI, 18, .inl o_now_marks_numbers))])) (rq (.int r)) 0 0 nofree := by
  refine ro_of_i (cc := cX6_told) (maxL := 2) (by decide) rfl (Nat.le_of_ble_eq_true rfl) ?_
  intro p e s m args below meth c Q ls hx hb hml hown hts hE hP hret hl
  have hK := hE.1
  have hl : lv_has ls 2 [(0, .ref a_o), (1, .int p0)] := hl
  unfold f_X6_told at hr
  have iX1 : ∀ w ∈ wsX10, w ∈ wsX6_told := memr_ (big := wsX6_told) wsX10 [89, 90] (by decide +kernel)
  have iX3 : ∀ w ∈ wsX30, w ∈ wsX6_told := memr_ (big := wsX6_told) wsX30 [79, 80, 81, 82, 83, 84, 85, 86, 87, 88] (by decide +kernel)
  have iX5 : ∀ w ∈ wsX50, w ∈ wsX6_told := memr_ (big := wsX6_told) wsX50 [91] (by decide +kernel)
  have iX6 : ∀ w ∈ wsX60, w ∈ wsX6_told := memr_ (big := wsX6_told) wsX60 [72, 73, 74, 75, 76, 77, 78] (by decide +kernel)
  refine lv_iload_n hx hb dX6_told_0 rfl (lv_at hl 1 rfl) ?_
  by_cases c_1 : p0 = (0 : Int32)
  · have hr := ite_p hr c_1
    refine W.eq (g2 := F0 m 1 ls (.int (0 : Int32) :: [])) (congrArg (fun z => F0 m 1 ls (.int z :: [])) c_1) ?_
    refine lv_tableIn (tgt := 44) hx hb dX6_told_1 (by decide) (by decide) (by first | rfl | decide) (by decide) ?_
    refine lv_aload_n hx hb dX6_told_44 rfl (lv_at hl 0 rfl) ?_
    refine va_get (D := (dC, dI)) (ci := 5) (v := .ref a_o_now) (C := RX6) (T := TX6) (N := 7) hx hb hts iX6 hown hK hP 0 rfl rfl 1 (by decide) (hts (.fieldLink RX6 23 "PascalRows" "now" "LPascalRows$Setup;") (List.mem_of_getElem? (i := 1) rfl)) (fun _ h9 => h9) rfl dX6_told_45 ?_
    refine va_getN (host := "PascalRows") (D := (dC, dI)) (ci := 2) (v := .int o_now_p) (C := RX3) (T := TX3) (N := 10) hx hb hts iX3 hown hK hP 3 rfl rfl 5 (by decide) (hE.nest 5 rfl rfl) (fun _ h9 => h9) rfl dX6_told_48 ?_
    exact hret 51 ls _ dX6_told_51 (Option.some.inj hr)
  have hr := ite_n hr c_1
  by_cases c_2 : p0 = (1 : Int32)
  · have hr := ite_p hr c_2
    refine W.eq (g2 := F0 m 1 ls (.int (1 : Int32) :: [])) (congrArg (fun z => F0 m 1 ls (.int z :: [])) c_2) ?_
    refine lv_tableIn (tgt := 52) hx hb dX6_told_1 (by decide) (by decide) (by first | rfl | decide) (by decide) ?_
    refine lv_aload_n hx hb dX6_told_52 rfl (lv_at hl 0 rfl) ?_
    refine va_get (D := (dC, dI)) (ci := 5) (v := .ref a_o_now) (C := RX6) (T := TX6) (N := 7) hx hb hts iX6 hown hK hP 0 rfl rfl 1 (by decide) (hts (.fieldLink RX6 23 "PascalRows" "now" "LPascalRows$Setup;") (List.mem_of_getElem? (i := 1) rfl)) (fun _ h9 => h9) rfl dX6_told_53 ?_
    refine va_getN (host := "PascalRows") (D := (dC, dI)) (ci := 2) (v := .int o_now_e) (C := RX3) (T := TX3) (N := 10) hx hb hts iX3 hown hK hP 3 rfl rfl 6 (by decide) (hE.nest 6 rfl rfl) (fun _ h9 => h9) rfl dX6_told_56 ?_
    exact hret 59 ls _ dX6_told_59 (Option.some.inj hr)
  have hr := ite_n hr c_2
  by_cases c_3 : p0 = (2 : Int32)
  · have hr := ite_p hr c_3
    refine W.eq (g2 := F0 m 1 ls (.int (2 : Int32) :: [])) (congrArg (fun z => F0 m 1 ls (.int z :: [])) c_3) ?_
    refine lv_tableIn (tgt := 60) hx hb dX6_told_1 (by decide) (by decide) (by first | rfl | decide) (by decide) ?_
    refine lv_aload_n hx hb dX6_told_60 rfl (lv_at hl 0 rfl) ?_
    refine va_get (D := (dC, dI)) (ci := 5) (v := .ref a_o_now) (C := RX6) (T := TX6) (N := 7) hx hb hts iX6 hown hK hP 0 rfl rfl 1 (by decide) (hts (.fieldLink RX6 23 "PascalRows" "now" "LPascalRows$Setup;") (List.mem_of_getElem? (i := 1) rfl)) (fun _ h9 => h9) rfl dX6_told_61 ?_
    refine va_getN (host := "PascalRows") (D := (dC, dI)) (ci := 2) (v := .int o_now_modulus) (C := RX3) (T := TX3) (N := 10) hx hb hts iX3 hown hK hP 3 rfl rfl 7 (by decide) (hE.nest 0 rfl rfl) (fun _ h9 => h9) rfl dX6_told_64 ?_
    exact hret 67 ls _ dX6_told_67 (Option.some.inj hr)
  have hr := ite_n hr c_3
  by_cases c_4 : p0 = (3 : Int32)
  · have hr := ite_p hr c_4
    refine W.eq (g2 := F0 m 1 ls (.int (3 : Int32) :: [])) (congrArg (fun z => F0 m 1 ls (.int z :: [])) c_4) ?_
    refine lv_tableIn (tgt := 68) hx hb dX6_told_1 (by decide) (by decide) (by first | rfl | decide) (by decide) ?_
    refine lv_aload_n hx hb dX6_told_68 rfl (lv_at hl 0 rfl) ?_
    refine va_get (D := (dC, dI)) (ci := 5) (v := .ref a_o_now) (C := RX6) (T := TX6) (N := 7) hx hb hts iX6 hown hK hP 0 rfl rfl 1 (by decide) (hts (.fieldLink RX6 23 "PascalRows" "now" "LPascalRows$Setup;") (List.mem_of_getElem? (i := 1) rfl)) (fun _ h9 => h9) rfl dX6_told_69 ?_
    refine va_getN (host := "PascalRows") (D := (dC, dI)) (ci := 2) (v := .ref a_o_now_marks) (C := RX3) (T := TX3) (N := 10) hx hb hts iX3 hown hK hP 3 rfl rfl 1 (by decide) (hE.nest 7 rfl rfl) (fun _ h9 => h9) rfl dX6_told_72 ?_
    refine va_getN (host := "PascalRows") (D := (dC, dI)) (ci := 0) (v := .int o_now_marks_size) (C := RX1) (T := TX1) (N := 2) hx hb hts iX1 hown hK hP 4 rfl rfl 1 (by decide) (hE.nest 8 rfl rfl) (fun _ h9 => h9) rfl dX6_told_75 ?_
    exact hret 78 ls _ dX6_told_78 (Option.some.inj hr)
  have hr := ite_n hr c_4
  by_cases c_5 : p0 = (4 : Int32)
  · have hr := ite_p hr c_5
    refine W.eq (g2 := F0 m 1 ls (.int (4 : Int32) :: [])) (congrArg (fun z => F0 m 1 ls (.int z :: [])) c_5) ?_
    refine lv_tableIn (tgt := 79) hx hb dX6_told_1 (by decide) (by decide) (by first | rfl | decide) (by decide) ?_
    refine lv_aload_n hx hb dX6_told_79 rfl (lv_at hl 0 rfl) ?_
    refine va_get (D := (dC, dI)) (ci := 5) (v := .ref a_o_now) (C := RX6) (T := TX6) (N := 7) hx hb hts iX6 hown hK hP 0 rfl rfl 1 (by decide) (hts (.fieldLink RX6 23 "PascalRows" "now" "LPascalRows$Setup;") (List.mem_of_getElem? (i := 1) rfl)) (fun _ h9 => h9) rfl dX6_told_80 ?_
    refine va_getN (host := "PascalRows") (D := (dC, dI)) (ci := 2) (v := .int o_now_windowRow) (C := RX3) (T := TX3) (N := 10) hx hb hts iX3 hown hK hP 3 rfl rfl 8 (by decide) (hE.nest 10 rfl rfl) (fun _ h9 => h9) rfl dX6_told_83 ?_
    exact hret 86 ls _ dX6_told_86 (Option.some.inj hr)
  have hr := ite_n hr c_5
  by_cases c_6 : p0 = (5 : Int32)
  · have hr := ite_p hr c_6
    refine W.eq (g2 := F0 m 1 ls (.int (5 : Int32) :: [])) (congrArg (fun z => F0 m 1 ls (.int z :: [])) c_6) ?_
    refine lv_tableIn (tgt := 87) hx hb dX6_told_1 (by decide) (by decide) (by first | rfl | decide) (by decide) ?_
    refine lv_aload_n hx hb dX6_told_87 rfl (lv_at hl 0 rfl) ?_
    refine va_get (D := (dC, dI)) (ci := 5) (v := .ref a_o_now) (C := RX6) (T := TX6) (N := 7) hx hb hts iX6 hown hK hP 0 rfl rfl 1 (by decide) (hts (.fieldLink RX6 23 "PascalRows" "now" "LPascalRows$Setup;") (List.mem_of_getElem? (i := 1) rfl)) (fun _ h9 => h9) rfl dX6_told_88 ?_
    refine va_getN (host := "PascalRows") (D := (dC, dI)) (ci := 2) (v := .int o_now_windowPlace) (C := RX3) (T := TX3) (N := 10) hx hb hts iX3 hown hK hP 3 rfl rfl 9 (by decide) (hE.nest 11 rfl rfl) (fun _ h9 => h9) rfl dX6_told_91 ?_
    exact hret 94 ls _ dX6_told_94 (Option.some.inj hr)
  have hr := ite_n hr c_6
  by_cases c_7 : p0 = (6 : Int32)
  · have hr := ite_p hr c_7
    refine W.eq (g2 := F0 m 1 ls (.int (6 : Int32) :: [])) (congrArg (fun z => F0 m 1 ls (.int z :: [])) c_7) ?_
    refine lv_tableIn (tgt := 95) hx hb dX6_told_1 (by decide) (by decide) (by first | rfl | decide) (by decide) ?_
    refine lv_aload_n hx hb dX6_told_95 rfl (lv_at hl 0 rfl) ?_
    refine va_get (D := (dC, dI)) (ci := 5) (v := .ref a_o_now) (C := RX6) (T := TX6) (N := 7) hx hb hts iX6 hown hK hP 0 rfl rfl 1 (by decide) (hts (.fieldLink RX6 23 "PascalRows" "now" "LPascalRows$Setup;") (List.mem_of_getElem? (i := 1) rfl)) (fun _ h9 => h9) rfl dX6_told_96 ?_
    obtain ⟨u_8, hu_8, hr⟩ := bd_e hr
    refine ro_V ⟨hx, hb, hml, hown, hts⟩ (k_X3_markedInWindow l dC dI cI cJ a_o_now a_o_triangle a_o_now_marks a_o_now_seen a_o_now_events a_o_now_book a_o_triangle_halves a_o_now_marks_numbers o_now_p o_now_e o_now_modulus o_now_windowRow o_now_windowPlace o_triangle_halves o_now_marks_size o_now_marks_numbers u_8 hu_8) (cwV 0 hts gX6_told_X3_markedInWindow rfl rfl rfl (by decide +kernel) ⟨Nat.le_of_ble_eq_true rfl, Nat.le_of_ble_eq_true rfl⟩) hE hP 3 rfl rfl rfl (hP.sub [3, 1, 2, 4, 5] rfl) rfl hl.1 rfl (Nat.le_of_ble_eq_true rfl) dX6_told_99 ⟨Nat.zero_le _, Nat.zero_le _⟩ ?_
    exact hret 102 ls _ dX6_told_102 (Option.some.inj hr)
  have hr := ite_n hr c_7
  refine lv_tableOut (tgt := 103) hx hb dX6_told_1 (tbl_out (fun k h1 h2 => ?_)) (by decide) ?_
  · rcases (show k = 0 ∨ k = 1 ∨ k = 2 ∨ k = 3 ∨ k = 4 ∨ k = 5 ∨ k = 6 by omega) with rfl | rfl | rfl | rfl | rfl | rfl | rfl
    · exact i32_ne c_1 rfl
    · exact i32_ne c_2 rfl
    · exact i32_ne c_3 rfl
    · exact i32_ne c_4 rfl
    · exact i32_ne c_5 rfl
    · exact i32_ne c_6 rfl
    · exact i32_ne c_7 rfl
  refine lv_iconst (v := (-1 : Int32)) hx hb dX6_told_103 (by decide) ?_
  exact hret 104 ls _ dX6_told_104 (Option.some.inj hr)
/-! X6_markOf -/
def rmX6_markOf : Room := { frames := 2, cells := 0, slots := 0, locals := 45 }
set_option maxHeartbeats 4000000 in
set_option maxRecDepth 100000 in
theorem k_X6_markOf (l : Launch) (dC : Nat → ClassId) (dI : Nat → Nat → Nat) (cI cJ : ClassId) (a_o : Nat) (a_o_triangle : Nat) (a_o_now : Nat) (a_o_kept : Nat) (a_o_trial : Nat) (a_o_reader : Nat) (a_o_tapes : Nat) (a_o_now_marks : Nat) (a_o_now_seen : Nat) (a_o_now_events : Nat) (a_o_now_book : Nat) (a_o_now_marks_numbers : Nat) (p0 : Int32) (p1 : Int32) (o_hasImage : Int32) (o_now_p : Int32) (o_now_e : Int32) (o_now_modulus : Int32) (o_now_windowRow : Int32) (o_now_windowPlace : Int32) (o_now_marks_size : Int32) (o_now_marks_numbers : Nat → Int32) (r : Int32) (hr : f_X6_markOf p0 p1 o_now_marks_numbers o_now_marks_size = some r) : Met l yX6_markOf wsX6_markOf rmX6_markOf (va_Pc [.ref a_o, .int p0, .int p1] (pE (dC, dI) cI cJ [(a_o, .inr (5, [.ref a_o_triangle, .ref a_o_now, .ref a_o_kept, .ref a_o_trial, .ref a_o_reader, .ref a_o_tapes, .int o_hasImage])), (a_o_now, .inr (2, [.ref a_o_triangle, .ref a_o_now_marks, .ref a_o_now_seen, .ref a_o_now_events, .ref a_o_now_book, .int o_now_p, .int o_now_e, .int o_now_modulus, .int o_now_windowRow, .int o_now_windowPlace])), (a_o_now_marks, .inr (0, [.ref a_o_now_marks_numbers, .int o_now_marks_size])), (a_o_now_marks_numbers, .inl (cI, 18, .inl o_now_marks_numbers))])) (rq (.int r)) 0 0 nofree := by
  refine ro_of_i (cc := cX6_markOf) (maxL := 3) (by decide) rfl (Nat.le_of_ble_eq_true rfl) ?_
  intro p e s m args below meth c Q ls hx hb hml hown hts hE hP hret hl
  have hK := hE.1
  have hl : lv_has ls 3 [(0, .ref a_o), (1, .int p0), (2, .int p1)] := hl
  unfold f_X6_markOf at hr
  have iX1 : ∀ w ∈ wsX10, w ∈ wsX6_markOf := memr_ (big := wsX6_markOf) wsX10 [30, 31] (by decide +kernel)
  have iX3 : ∀ w ∈ wsX30, w ∈ wsX6_markOf := memr_ (big := wsX6_markOf) wsX30 [20, 21, 22, 23, 24, 25, 26, 27, 28, 29] (by decide +kernel)
  have iX6 : ∀ w ∈ wsX60, w ∈ wsX6_markOf := memr_ (big := wsX6_markOf) wsX60 [13, 14, 15, 16, 17, 18, 19] (by decide +kernel)
  refine lv_iload_n hx hb dX6_markOf_0 rfl (lv_at hl 1 rfl) ?_
  refine lv_iconst (v := (0 : Int32)) hx hb dX6_markOf_1 (by decide) ?_
  refine lv_aload_n hx hb dX6_markOf_2 rfl (lv_at hl 0 rfl) ?_
  refine va_get (D := (dC, dI)) (ci := 5) (v := .ref a_o_now) (C := RX6) (T := TX6) (N := 7) hx hb hts iX6 hown hK hP 0 rfl rfl 1 (by decide) (hts (.fieldLink RX6 23 "PascalRows" "now" "LPascalRows$Setup;") (List.mem_of_getElem? (i := 1) rfl)) (fun _ h9 => h9) rfl dX6_markOf_3 ?_
  refine va_getN (host := "PascalRows") (D := (dC, dI)) (ci := 2) (v := .ref a_o_now_marks) (C := RX3) (T := TX3) (N := 10) hx hb hts iX3 hown hK hP 1 rfl rfl 1 (by decide) (hE.nest 7 rfl rfl) (fun _ h9 => h9) rfl dX6_markOf_6 ?_
  refine va_getN (host := "PascalRows") (D := (dC, dI)) (ci := 0) (v := .int o_now_marks_size) (C := RX1) (T := TX1) (N := 2) hx hb hts iX1 hown hK hP 2 rfl rfl 1 (by decide) (hE.nest 8 rfl rfl) (fun _ h9 => h9) rfl dX6_markOf_9 ?_
  refine lv_iconst (v := (1 : Int32)) hx hb dX6_markOf_12 (by decide) ?_
  refine lv_isub hx hb dX6_markOf_13 ?_
  refine ro_S ⟨hx, hb, hml, hown, hts⟩ (k_X6_isWithin l dC dI cI cJ p0 (0 : Int32) (o_now_marks_size - (1 : Int32))) (va_cwS 3 hts gX6_markOf_X6_isWithin rfl rfl rfl (by decide +kernel) ⟨Nat.le_of_ble_eq_true rfl, Nat.le_of_ble_eq_true rfl⟩) hE (hP.sub [] rfl) rfl hl.1 rfl (Nat.le_of_ble_eq_true rfl) dX6_markOf_14 ⟨Nat.zero_le _, Nat.zero_le _⟩ ?_
  have tT_2 : (((f_X6_isWithin p0 (0 : Int32) (o_now_marks_size - (1 : Int32))) = 0) ∨ ((f_X6_isWithin p1 (0 : Int32) (1 : Int32)) = 0)) → W p l e rmX6_markOf s m args below meth c s.heap [] 0 0 Q (F0 m 29 ls []) := by
    intro hc_1
    have hr := ite_p hr hc_1
    refine lv_iconst (v := (-1 : Int32)) hx hb dX6_markOf_29 (by decide) ?_
    exact hret 30 ls _ dX6_markOf_30 (Option.some.inj hr)
  have tF_3 : ¬ (((f_X6_isWithin p0 (0 : Int32) (o_now_marks_size - (1 : Int32))) = 0) ∨ ((f_X6_isWithin p1 (0 : Int32) (1 : Int32)) = 0)) → W p l e rmX6_markOf s m args below meth c s.heap [] 0 0 Q (F0 m 31 ls []) := by
    intro hc_1
    have hr := ite_n hr hc_1
    refine lv_aload_n hx hb dX6_markOf_31 rfl (lv_at hl 0 rfl) ?_
    refine va_get (D := (dC, dI)) (ci := 5) (v := .ref a_o_now) (C := RX6) (T := TX6) (N := 7) hx hb hts iX6 hown hK hP 0 rfl rfl 1 (by decide) (hts (.fieldLink RX6 23 "PascalRows" "now" "LPascalRows$Setup;") (List.mem_of_getElem? (i := 1) rfl)) (fun _ h9 => h9) rfl dX6_markOf_32 ?_
    refine va_getN (host := "PascalRows") (D := (dC, dI)) (ci := 2) (v := .ref a_o_now_marks) (C := RX3) (T := TX3) (N := 10) hx hb hts iX3 hown hK hP 1 rfl rfl 1 (by decide) (hE.nest 7 rfl rfl) (fun _ h9 => h9) rfl dX6_markOf_35 ?_
    refine lv_iload_n hx hb dX6_markOf_38 rfl (lv_at hl 1 rfl) ?_
    refine lv_iload_n hx hb dX6_markOf_39 rfl (lv_at hl 2 rfl) ?_
    obtain ⟨u_4, hu_4, hr⟩ := bd_e hr
    refine ro_V ⟨hx, hb, hml, hown, hts⟩ (k_X1_number l dC dI cI cJ a_o_now_marks a_o_now_marks_numbers p0 p1 18 o_now_marks_size o_now_marks_numbers u_4 hu_4) (cwV 2 hts gX6_markOf_X1_number rfl rfl rfl (by decide +kernel) ⟨Nat.le_of_ble_eq_true rfl, Nat.le_of_ble_eq_true rfl⟩) hE hP 2 rfl rfl rfl (hP.sub [2, 3] rfl) rfl hl.1 rfl (Nat.le_of_ble_eq_true rfl) dX6_markOf_40 ⟨Nat.zero_le _, Nat.zero_le _⟩ ?_
    exact hret 43 ls _ dX6_markOf_43 (Option.some.inj hr)
  refine lv_if_eq (tgt := 29) hx hb dX6_markOf_17 (by decide) (fun c_5 => ?_) (fun c_5 => ?_)
  · exact tT_2 (Or.inl c_5)
  · refine lv_iload_n hx hb dX6_markOf_20 rfl (lv_at hl 2 rfl) ?_
    refine lv_iconst (v := (0 : Int32)) hx hb dX6_markOf_21 (by decide) ?_
    refine lv_iconst (v := (1 : Int32)) hx hb dX6_markOf_22 (by decide) ?_
    refine ro_S ⟨hx, hb, hml, hown, hts⟩ (k_X6_isWithin l dC dI cI cJ p1 (0 : Int32) (1 : Int32)) (va_cwS 3 hts gX6_markOf_X6_isWithin rfl rfl rfl (by decide +kernel) ⟨Nat.le_of_ble_eq_true rfl, Nat.le_of_ble_eq_true rfl⟩) hE (hP.sub [] rfl) rfl hl.1 rfl (Nat.le_of_ble_eq_true rfl) dX6_markOf_23 ⟨Nat.zero_le _, Nat.zero_le _⟩ ?_
    refine lv_if_ne (tgt := 31) hx hb dX6_markOf_26 (by decide) (fun c_6 => ?_) (fun c_6 => ?_)
    · exact tF_3 (fun h => h.elim c_5 c_6)
    · exact tT_2 (Or.inr c_6)
/-! X6_at -/
def rmX6_at : Room := { frames := 3, cells := 0, slots := 0, locals := 69 }
set_option maxHeartbeats 4000000 in
set_option maxRecDepth 100000 in
theorem k_X6_at (l : Launch) (dC : Nat → ClassId) (dI : Nat → Nat → Nat) (cI cJ : ClassId) (a_o : Nat) (a_o_triangle : Nat) (a_o_now : Nat) (a_o_kept : Nat) (a_o_trial : Nat) (a_o_reader : Nat) (a_o_tapes : Nat) (a_o_triangle_halves : Nat) (a_o_now_marks : Nat) (a_o_now_seen : Nat) (a_o_now_events : Nat) (a_o_now_book : Nat) (p0 : Int32) (p1 : Int32) (o_hasImage : Int32) (o_triangle_halves : Nat → Int32) (o_now_p : Int32) (o_now_e : Int32) (o_now_modulus : Int32) (o_now_windowRow : Int32) (o_now_windowPlace : Int32) (r : Int32) (hr : f_X6_at p0 p1 o_triangle_halves o_now_modulus = some r) : Met l yX6_at wsX6_at rmX6_at (va_Pc [.ref a_o, .int p0, .int p1] (pE (dC, dI) cI cJ [(a_o, .inr (5, [.ref a_o_triangle, .ref a_o_now, .ref a_o_kept, .ref a_o_trial, .ref a_o_reader, .ref a_o_tapes, .int o_hasImage])), (a_o_triangle, .inr (4, [.ref a_o_triangle_halves])), (a_o_triangle_halves, .inl (cI, 4160, .inl o_triangle_halves)), (a_o_now, .inr (2, [.ref a_o_triangle, .ref a_o_now_marks, .ref a_o_now_seen, .ref a_o_now_events, .ref a_o_now_book, .int o_now_p, .int o_now_e, .int o_now_modulus, .int o_now_windowRow, .int o_now_windowPlace]))])) (rq (.int r)) 0 0 nofree := by
  refine ro_of_i (cc := cX6_at) (maxL := 3) (by decide) rfl (Nat.le_of_ble_eq_true rfl) ?_
  intro p e s m args below meth c Q ls hx hb hml hown hts hE hP hret hl
  have hK := hE.1
  have hl : lv_has ls 3 [(0, .ref a_o), (1, .int p0), (2, .int p1)] := hl
  unfold f_X6_at at hr
  have iX3 : ∀ w ∈ wsX30, w ∈ wsX6_at := memr_ (big := wsX6_at) wsX30 [33, 34, 35, 36, 37, 38, 39, 40, 41, 42] (by decide +kernel)
  have iX5 : ∀ w ∈ wsX50, w ∈ wsX6_at := memr_ (big := wsX6_at) wsX50 [43] (by decide +kernel)
  have iX6 : ∀ w ∈ wsX60, w ∈ wsX6_at := memr_ (big := wsX6_at) wsX60 [26, 27, 28, 29, 30, 31, 32] (by decide +kernel)
  refine lv_iload_n hx hb dX6_at_0 rfl (lv_at hl 1 rfl) ?_
  refine ro_S ⟨hx, hb, hml, hown, hts⟩ (k_X6_isRow l dC dI cI cJ p0) (va_cwS 1 hts gX6_at_X6_isRow rfl rfl rfl (by decide +kernel) ⟨Nat.le_of_ble_eq_true rfl, Nat.le_of_ble_eq_true rfl⟩) hE (hP.sub [] rfl) rfl hl.1 rfl (Nat.le_of_ble_eq_true rfl) dX6_at_1 ⟨Nat.zero_le _, Nat.zero_le _⟩ ?_
  refine lv_if_eq (tgt := 19) hx hb dX6_at_4 (by decide) (fun c_1 => ?_) (fun c_1 => ?_)
  · have hr := ite_p hr c_1
    refine lv_iconst (v := (-1 : Int32)) hx hb dX6_at_19 (by decide) ?_
    exact hret 20 ls _ dX6_at_20 (Option.some.inj hr)
  · have hr := ite_n hr c_1
    refine lv_aload_n hx hb dX6_at_7 rfl (lv_at hl 0 rfl) ?_
    refine va_get (D := (dC, dI)) (ci := 5) (v := .ref a_o_now) (C := RX6) (T := TX6) (N := 7) hx hb hts iX6 hown hK hP 0 rfl rfl 1 (by decide) (hts (.fieldLink RX6 23 "PascalRows" "now" "LPascalRows$Setup;") (List.mem_of_getElem? (i := 1) rfl)) (fun _ h9 => h9) rfl dX6_at_8 ?_
    refine lv_iload_n hx hb dX6_at_11 rfl (lv_at hl 1 rfl) ?_
    refine lv_iload_n hx hb dX6_at_12 rfl (lv_at hl 2 rfl) ?_
    obtain ⟨u_2, hu_2, hr⟩ := bd_e hr
    refine ro_V ⟨hx, hb, hml, hown, hts⟩ (k_X3_remainder l dC dI cI cJ a_o_now a_o_triangle a_o_now_marks a_o_now_seen a_o_now_events a_o_now_book a_o_triangle_halves p0 p1 o_now_p o_now_e o_now_modulus o_now_windowRow o_now_windowPlace o_triangle_halves u_2 hu_2) (cwV 2 hts gX6_at_X3_remainder rfl rfl rfl (by decide +kernel) ⟨Nat.le_of_ble_eq_true rfl, Nat.le_of_ble_eq_true rfl⟩) hE hP 3 rfl rfl rfl (hP.sub [3, 1, 2] rfl) rfl hl.1 rfl (Nat.le_of_ble_eq_true rfl) dX6_at_13 ⟨Nat.zero_le _, Nat.zero_le _⟩ ?_
    refine lv_goto (tgt := 20) hx hb dX6_at_16 (by decide) ?_
    exact hret 20 ls _ dX6_at_20 (Option.some.inj hr)
/-! X6_rule -/
def rmX6_rule : Room := { frames := 3, cells := 0, slots := 0, locals := 74 }
set_option maxHeartbeats 4000000 in
set_option maxRecDepth 100000 in
theorem k_X6_rule (l : Launch) (dC : Nat → ClassId) (dI : Nat → Nat → Nat) (cI cJ : ClassId) (a_o : Nat) (a_o_triangle : Nat) (a_o_now : Nat) (a_o_kept : Nat) (a_o_trial : Nat) (a_o_reader : Nat) (a_o_tapes : Nat) (a_o_triangle_halves : Nat) (a_o_now_marks : Nat) (a_o_now_seen : Nat) (a_o_now_events : Nat) (a_o_now_book : Nat) (p0 : Int32) (p1 : Int32) (p2 : Int32) (o_hasImage : Int32) (o_triangle_halves : Nat → Int32) (o_now_p : Int32) (o_now_e : Int32) (o_now_modulus : Int32) (o_now_windowRow : Int32) (o_now_windowPlace : Int32) (r : Int32) (hr : f_X6_rule p0 p1 p2 o_triangle_halves o_now_p o_now_modulus = some r) : Met l yX6_rule wsX6_rule rmX6_rule (va_Pc [.ref a_o, .int p0, .int p1, .int p2] (pE (dC, dI) cI cJ [(a_o, .inr (5, [.ref a_o_triangle, .ref a_o_now, .ref a_o_kept, .ref a_o_trial, .ref a_o_reader, .ref a_o_tapes, .int o_hasImage])), (a_o_triangle, .inr (4, [.ref a_o_triangle_halves])), (a_o_triangle_halves, .inl (cI, 4160, .inl o_triangle_halves)), (a_o_now, .inr (2, [.ref a_o_triangle, .ref a_o_now_marks, .ref a_o_now_seen, .ref a_o_now_events, .ref a_o_now_book, .int o_now_p, .int o_now_e, .int o_now_modulus, .int o_now_windowRow, .int o_now_windowPlace]))])) (rq (.int r)) 0 0 nofree := by
  refine ro_of_i (cc := cX6_rule) (maxL := 4) (by decide) rfl (Nat.le_of_ble_eq_true rfl) ?_
  intro p e s m args below meth c Q ls hx hb hml hown hts hE hP hret hl
  have hK := hE.1
  have hl : lv_has ls 4 [(0, .ref a_o), (1, .int p0), (2, .int p1), (3, .int p2)] := hl
  unfold f_X6_rule at hr
  have iX3 : ∀ w ∈ wsX30, w ∈ wsX6_rule := memr_ (big := wsX6_rule) wsX30 [51, 52, 53, 54, 55, 56, 57, 58, 59, 60] (by decide +kernel)
  have iX5 : ∀ w ∈ wsX50, w ∈ wsX6_rule := memr_ (big := wsX6_rule) wsX50 [61] (by decide +kernel)
  have iX6 : ∀ w ∈ wsX60, w ∈ wsX6_rule := memr_ (big := wsX6_rule) wsX60 [44, 45, 46, 47, 48, 49, 50] (by decide +kernel)
  refine lv_iload_n hx hb dX6_rule_0 rfl (lv_at hl 1 rfl) ?_
  refine lv_iconst (v := (0 : Int32)) hx hb dX6_rule_1 (by decide) ?_
  refine lv_iconst (v := (4 : Int32)) hx hb dX6_rule_2 (by decide) ?_
  refine ro_S ⟨hx, hb, hml, hown, hts⟩ (k_X6_isWithin l dC dI cI cJ p0 (0 : Int32) (4 : Int32)) (va_cwS 3 hts gX6_rule_X6_isWithin rfl rfl rfl (by decide +kernel) ⟨Nat.le_of_ble_eq_true rfl, Nat.le_of_ble_eq_true rfl⟩) hE (hP.sub [] rfl) rfl hl.1 rfl (Nat.le_of_ble_eq_true rfl) dX6_rule_3 ⟨Nat.zero_le _, Nat.zero_le _⟩ ?_
  have tT_2 : (((f_X6_isWithin p0 (0 : Int32) (4 : Int32)) = 0) ∨ ((f_X6_isPlace p1 p2) = 0)) → W p l e rmX6_rule s m args below meth c s.heap [] 0 0 Q (F0 m 17 ls []) := by
    intro hc_1
    have hr := ite_p hr hc_1
    refine lv_iconst (v := (-1 : Int32)) hx hb dX6_rule_17 (by decide) ?_
    exact hret 18 ls _ dX6_rule_18 (Option.some.inj hr)
  have tF_3 : ¬ (((f_X6_isWithin p0 (0 : Int32) (4 : Int32)) = 0) ∨ ((f_X6_isPlace p1 p2) = 0)) → W p l e rmX6_rule s m args below meth c s.heap [] 0 0 Q (F0 m 19 ls []) := by
    intro hc_1
    have hr := ite_n hr hc_1
    refine lv_aload_n hx hb dX6_rule_19 rfl (lv_at hl 0 rfl) ?_
    refine va_get (D := (dC, dI)) (ci := 5) (v := .ref a_o_now) (C := RX6) (T := TX6) (N := 7) hx hb hts iX6 hown hK hP 0 rfl rfl 1 (by decide) (hts (.fieldLink RX6 23 "PascalRows" "now" "LPascalRows$Setup;") (List.mem_of_getElem? (i := 1) rfl)) (fun _ h9 => h9) rfl dX6_rule_20 ?_
    refine lv_iload_n hx hb dX6_rule_23 rfl (lv_at hl 1 rfl) ?_
    refine lv_iload_n hx hb dX6_rule_24 rfl (lv_at hl 2 rfl) ?_
    refine lv_iload_n hx hb dX6_rule_25 rfl (lv_at hl 3 rfl) ?_
    obtain ⟨u_4, hu_4, hr⟩ := bd_e hr
    refine ro_V ⟨hx, hb, hml, hown, hts⟩ (k_X3_tell l dC dI cI cJ a_o_now a_o_triangle a_o_now_marks a_o_now_seen a_o_now_events a_o_now_book a_o_triangle_halves p0 p1 p2 o_now_p o_now_e o_now_modulus o_now_windowRow o_now_windowPlace o_triangle_halves u_4 hu_4) (cwV 3 hts gX6_rule_X3_tell rfl rfl rfl (by decide +kernel) ⟨Nat.le_of_ble_eq_true rfl, Nat.le_of_ble_eq_true rfl⟩) hE hP 3 rfl rfl rfl (hP.sub [3, 1, 2] rfl) rfl hl.1 rfl (Nat.le_of_ble_eq_true rfl) dX6_rule_26 ⟨Nat.zero_le _, Nat.zero_le _⟩ ?_
    exact hret 29 ls _ dX6_rule_29 (Option.some.inj hr)
  refine lv_if_eq (tgt := 17) hx hb dX6_rule_6 (by decide) (fun c_5 => ?_) (fun c_5 => ?_)
  · exact tT_2 (Or.inl c_5)
  · refine lv_iload_n hx hb dX6_rule_9 rfl (lv_at hl 2 rfl) ?_
    refine lv_iload_n hx hb dX6_rule_10 rfl (lv_at hl 3 rfl) ?_
    refine ro_S ⟨hx, hb, hml, hown, hts⟩ (k_X6_isPlace l dC dI cI cJ p1 p2) (va_cwS 2 hts gX6_rule_X6_isPlace rfl rfl rfl (by decide +kernel) ⟨Nat.le_of_ble_eq_true rfl, Nat.le_of_ble_eq_true rfl⟩) hE (hP.sub [] rfl) rfl hl.1 rfl (Nat.le_of_ble_eq_true rfl) dX6_rule_11 ⟨Nat.zero_le _, Nat.zero_le _⟩ ?_
    refine lv_if_ne (tgt := 19) hx hb dX6_rule_14 (by decide) (fun c_6 => ?_) (fun c_6 => ?_)
    · exact tF_3 (fun h => h.elim c_5 c_6)
    · exact tT_2 (Or.inr c_6)
/-! X6_marked -/
def rmX6_marked : Room := { frames := 4, cells := 0, slots := 0, locals := 97 }
set_option maxHeartbeats 4000000 in
set_option maxRecDepth 100000 in
theorem k_X6_marked (l : Launch) (dC : Nat → ClassId) (dI : Nat → Nat → Nat) (cI cJ : ClassId) (a_o : Nat) (a_o_triangle : Nat) (a_o_now : Nat) (a_o_kept : Nat) (a_o_trial : Nat) (a_o_reader : Nat) (a_o_tapes : Nat) (a_o_triangle_halves : Nat) (a_o_now_marks : Nat) (a_o_now_seen : Nat) (a_o_now_events : Nat) (a_o_now_book : Nat) (a_o_now_marks_numbers : Nat) (p0 : Int32) (p1 : Int32) (o_hasImage : Int32) (o_triangle_halves : Nat → Int32) (o_now_p : Int32) (o_now_e : Int32) (o_now_modulus : Int32) (o_now_windowRow : Int32) (o_now_windowPlace : Int32) (o_now_marks_size : Int32) (o_now_marks_numbers : Nat → Int32) (r : Int32) (hr : f_X6_marked p0 p1 o_triangle_halves o_now_marks_numbers o_now_marks_size o_now_p o_now_modulus = some r) : Met l yX6_marked wsX6_marked rmX6_marked (va_Pc [.ref a_o, .int p0, .int p1] (pE (dC, dI) cI cJ [(a_o, .inr (5, [.ref a_o_triangle, .ref a_o_now, .ref a_o_kept, .ref a_o_trial, .ref a_o_reader, .ref a_o_tapes, .int o_hasImage])), (a_o_triangle, .inr (4, [.ref a_o_triangle_halves])), (a_o_triangle_halves, .inl (cI, 4160, .inl o_triangle_halves)), (a_o_now, .inr (2, [.ref a_o_triangle, .ref a_o_now_marks, .ref a_o_now_seen, .ref a_o_now_events, .ref a_o_now_book, .int o_now_p, .int o_now_e, .int o_now_modulus, .int o_now_windowRow, .int o_now_windowPlace])), (a_o_now_marks, .inr (0, [.ref a_o_now_marks_numbers, .int o_now_marks_size])), (a_o_now_marks_numbers, .inl (cI, 18, .inl o_now_marks_numbers))])) (rq (.int r)) 0 0 nofree := by
  refine ro_of_i (cc := cX6_marked) (maxL := 3) (by decide) rfl (Nat.le_of_ble_eq_true rfl) ?_
  intro p e s m args below meth c Q ls hx hb hml hown hts hE hP hret hl
  have hK := hE.1
  have hl : lv_has ls 3 [(0, .ref a_o), (1, .int p0), (2, .int p1)] := hl
  unfold f_X6_marked at hr
  have iX1 : ∀ w ∈ wsX10, w ∈ wsX6_marked := memr_ (big := wsX6_marked) wsX10 [73, 74] (by decide +kernel)
  have iX3 : ∀ w ∈ wsX30, w ∈ wsX6_marked := memr_ (big := wsX6_marked) wsX30 [63, 64, 65, 66, 67, 68, 69, 70, 71, 72] (by decide +kernel)
  have iX5 : ∀ w ∈ wsX50, w ∈ wsX6_marked := memr_ (big := wsX6_marked) wsX50 [75] (by decide +kernel)
  have iX6 : ∀ w ∈ wsX60, w ∈ wsX6_marked := memr_ (big := wsX6_marked) wsX60 [56, 57, 58, 59, 60, 61, 62] (by decide +kernel)
  refine lv_iload_n hx hb dX6_marked_0 rfl (lv_at hl 1 rfl) ?_
  refine lv_iload_n hx hb dX6_marked_1 rfl (lv_at hl 2 rfl) ?_
  refine ro_S ⟨hx, hb, hml, hown, hts⟩ (k_X6_isPlace l dC dI cI cJ p0 p1) (va_cwS 2 hts gX6_marked_X6_isPlace rfl rfl rfl (by decide +kernel) ⟨Nat.le_of_ble_eq_true rfl, Nat.le_of_ble_eq_true rfl⟩) hE (hP.sub [] rfl) rfl hl.1 rfl (Nat.le_of_ble_eq_true rfl) dX6_marked_2 ⟨Nat.zero_le _, Nat.zero_le _⟩ ?_
  refine lv_if_ne (tgt := 10) hx hb dX6_marked_5 (by decide) (fun c_1 => ?_) (fun c_1 => ?_)
  · have hr := ite_n hr c_1
    refine lv_aload_n hx hb dX6_marked_10 rfl (lv_at hl 0 rfl) ?_
    refine va_get (D := (dC, dI)) (ci := 5) (v := .ref a_o_now) (C := RX6) (T := TX6) (N := 7) hx hb hts iX6 hown hK hP 0 rfl rfl 1 (by decide) (hts (.fieldLink RX6 23 "PascalRows" "now" "LPascalRows$Setup;") (List.mem_of_getElem? (i := 1) rfl)) (fun _ h9 => h9) rfl dX6_marked_11 ?_
    refine lv_iload_n hx hb dX6_marked_14 rfl (lv_at hl 1 rfl) ?_
    refine lv_iload_n hx hb dX6_marked_15 rfl (lv_at hl 2 rfl) ?_
    obtain ⟨u_2, hu_2, hr⟩ := bd_e hr
    refine ro_V ⟨hx, hb, hml, hown, hts⟩ (k_X3_isMarked l dC dI cI cJ a_o_now a_o_triangle a_o_now_marks a_o_now_seen a_o_now_events a_o_now_book a_o_triangle_halves a_o_now_marks_numbers p0 p1 o_now_p o_now_e o_now_modulus o_now_windowRow o_now_windowPlace o_triangle_halves o_now_marks_size o_now_marks_numbers u_2 hu_2) (cwV 2 hts gX6_marked_X3_isMarked rfl rfl rfl (by decide +kernel) ⟨Nat.le_of_ble_eq_true rfl, Nat.le_of_ble_eq_true rfl⟩) hE hP 3 rfl rfl rfl (hP.sub [3, 1, 2, 4, 5] rfl) rfl hl.1 rfl (Nat.le_of_ble_eq_true rfl) dX6_marked_16 ⟨Nat.zero_le _, Nat.zero_le _⟩ ?_
    have hJ_3 : ∀ (y_4 : Int32) (ey_4 : y_4 = (if (¬ (u_2 = 0)) then (1 : Int32) else (0 : Int32))) (ls : Array Slot), lv_has ls 3 [] → W p l e rmX6_marked s m args below meth c s.heap [] 0 0 Q (F0 m 27 ls [.int y_4]) := by
      intro y_4 ey_4 ls hl
      subst ey_4
      exact hret 27 ls _ dX6_marked_27 (Option.some.inj hr)
    refine lv_if_eq (tgt := 26) hx hb dX6_marked_19 (by decide) (fun c_5 => ?_) (fun c_5 => ?_)
    · refine lv_iconst (v := (0 : Int32)) hx hb dX6_marked_26 (by decide) ?_
      exact hJ_3 _ (if_neg (fun h => h c_5)).symm ls (lv_sub hl [] rfl)
    · refine lv_iconst (v := (1 : Int32)) hx hb dX6_marked_22 (by decide) ?_
      refine lv_goto (tgt := 27) hx hb dX6_marked_23 (by decide) ?_
      exact hJ_3 _ (if_pos c_5).symm ls (lv_sub hl [] rfl)
  · have hr := ite_p hr c_1
    refine lv_iconst (v := (-1 : Int32)) hx hb dX6_marked_8 (by decide) ?_
    exact hret 9 ls _ dX6_marked_9 (Option.some.inj hr)
/-! X6_digit -/
def rmX6_digit : Room := { frames := 1, cells := 0, slots := 0, locals := 24 }
set_option maxHeartbeats 4000000 in
set_option maxRecDepth 100000 in
theorem k_X6_digit (l : Launch) (dC : Nat → ClassId) (dI : Nat → Nat → Nat) (cI cJ : ClassId) (a_o : Nat) (a_o_triangle : Nat) (a_o_now : Nat) (a_o_kept : Nat) (a_o_trial : Nat) (a_o_reader : Nat) (a_o_tapes : Nat) (a_o_now_marks : Nat) (a_o_now_seen : Nat) (a_o_now_events : Nat) (a_o_now_book : Nat) (p0 : Int32) (p1 : Int32) (o_hasImage : Int32) (o_now_p : Int32) (o_now_e : Int32) (o_now_modulus : Int32) (o_now_windowRow : Int32) (o_now_windowPlace : Int32) (r : Int32) (hr : f_X6_digit p0 p1 o_now_p = some r) : Met l yX6_digit wsX6_digit rmX6_digit (va_Pc [.ref a_o, .int p0, .int p1] (pE (dC, dI) cI cJ [(a_o, .inr (5, [.ref a_o_triangle, .ref a_o_now, .ref a_o_kept, .ref a_o_trial, .ref a_o_reader, .ref a_o_tapes, .int o_hasImage])), (a_o_now, .inr (2, [.ref a_o_triangle, .ref a_o_now_marks, .ref a_o_now_seen, .ref a_o_now_events, .ref a_o_now_book, .int o_now_p, .int o_now_e, .int o_now_modulus, .int o_now_windowRow, .int o_now_windowPlace]))])) (rq (.int r)) 0 0 nofree := by
  refine ro_of_i (cc := cX6_digit) (maxL := 4) (by decide) rfl (Nat.le_of_ble_eq_true rfl) ?_
  intro p e s m args below meth c Q ls hx hb hml hown hts hE hP hret hl
  have hK := hE.1
  have hl : lv_has ls 4 [(0, .ref a_o), (1, .int p0), (2, .int p1)] := hl
  unfold f_X6_digit at hr
  have iX3 : ∀ w ∈ wsX30, w ∈ wsX6_digit := memr_ (big := wsX6_digit) wsX30 [20, 21, 22, 23, 24, 25, 26, 27, 28, 29] (by decide +kernel)
  have iX6 : ∀ w ∈ wsX60, w ∈ wsX6_digit := memr_ (big := wsX6_digit) wsX60 [13, 14, 15, 16, 17, 18, 19] (by decide +kernel)
  refine lv_iload_n hx hb dX6_digit_0 rfl (lv_at hl 1 rfl) ?_
  refine lv_iconst (v := (0 : Int32)) hx hb dX6_digit_1 (by decide) ?_
  refine lv_sipush (v := (9999 : Int32)) hx hb dX6_digit_2 (by decide) ?_
  refine ro_S ⟨hx, hb, hml, hown, hts⟩ (k_X6_isWithin l dC dI cI cJ p0 (0 : Int32) (9999 : Int32)) (va_cwS 3 hts gX6_digit_X6_isWithin rfl rfl rfl (by decide +kernel) ⟨Nat.le_of_ble_eq_true rfl, Nat.le_of_ble_eq_true rfl⟩) hE (hP.sub [] rfl) rfl hl.1 rfl (Nat.le_of_ble_eq_true rfl) dX6_digit_5 ⟨Nat.zero_le _, Nat.zero_le _⟩ ?_
  refine lv_if_ne (tgt := 14) hx hb dX6_digit_8 (by decide) (fun c_1 => ?_) (fun c_1 => ?_)
  · have hr := ite_n hr c_1
    refine lv_iload_n hx hb dX6_digit_14 rfl (lv_at hl 2 rfl) ?_
    refine lv_iconst (v := (-1 : Int32)) hx hb dX6_digit_15 (by decide) ?_
    refine lv_icmp_ge (tgt := 21) hx hb dX6_digit_16 (by decide) (fun c_2 => ?_) (fun c_2 => ?_)
    · have hr := ite_p hr c_2
      refine lv_aload_n hx hb dX6_digit_21 rfl (lv_at hl 0 rfl) ?_
      refine va_get (D := (dC, dI)) (ci := 5) (v := .ref a_o_now) (C := RX6) (T := TX6) (N := 7) hx hb hts iX6 hown hK hP 0 rfl rfl 1 (by decide) (hts (.fieldLink RX6 23 "PascalRows" "now" "LPascalRows$Setup;") (List.mem_of_getElem? (i := 1) rfl)) (fun _ h9 => h9) rfl dX6_digit_22 ?_
      refine va_getN (host := "PascalRows") (D := (dC, dI)) (ci := 2) (v := .int o_now_p) (C := RX3) (T := TX3) (N := 10) hx hb hts iX3 hown hK hP 1 rfl rfl 5 (by decide) (hE.nest 5 rfl rfl) (fun _ h9 => h9) rfl dX6_digit_25 ?_
      refine lv_iload_n hx hb dX6_digit_28 rfl (lv_at hl 1 rfl) ?_
      obtain ⟨u_3, hu_3, hr⟩ := bd_e hr
      refine ro_S ⟨hx, hb, hml, hown, hts⟩ (k_X0_howMany l dC dI cI cJ o_now_p p0 u_3 hu_3) (va_cwS 2 hts gX6_digit_X0_howMany rfl rfl rfl (by decide +kernel) ⟨Nat.le_of_ble_eq_true rfl, Nat.le_of_ble_eq_true rfl⟩) hE (hP.sub [] rfl) rfl hl.1 rfl (Nat.le_of_ble_eq_true rfl) dX6_digit_29 ⟨Nat.zero_le _, Nat.zero_le _⟩ ?_
      refine lv_istore_n (lv' := [(3, .int u_3), (0, .ref a_o), (1, .int p0), (2, .int p1)]) hx hb dX6_digit_32 rfl hl (by decide) rfl (fun ls hl => ?_)
      refine lv_iload_n hx hb dX6_digit_33 rfl (lv_at hl 3 rfl) ?_
      refine lv_iconst (v := (-1 : Int32)) hx hb dX6_digit_34 (by decide) ?_
      refine lv_icmp_ne (tgt := 40) hx hb dX6_digit_35 (by decide) (fun c_4 => ?_) (fun c_4 => ?_)
      · have hr := ite_n hr c_4
        refine lv_iload_n hx hb dX6_digit_40 rfl (lv_at hl 3 rfl) ?_
        refine lv_iload_n hx hb dX6_digit_41 rfl (lv_at hl 0 rfl) ?_
        refine lv_icmp_ge (tgt := 60) hx hb dX6_digit_42 (by decide) (fun c_5 => ?_) (fun c_5 => ?_)
        · have hr := ite_p hr c_5
          refine lv_bipush (v := (-5 : Int32)) hx hb dX6_digit_60 (by decide) ?_
          exact hret 62 ls _ dX6_digit_62 (Option.some.inj hr)
        · have hr := ite_n hr c_5
          refine lv_aload_n hx hb dX6_digit_45 rfl (lv_at hl 1 rfl) ?_
          refine va_get (D := (dC, dI)) (ci := 5) (v := .ref a_o_now) (C := RX6) (T := TX6) (N := 7) hx hb hts iX6 hown hK hP 0 rfl rfl 1 (by decide) (hts (.fieldLink RX6 23 "PascalRows" "now" "LPascalRows$Setup;") (List.mem_of_getElem? (i := 1) rfl)) (fun _ h9 => h9) rfl dX6_digit_46 ?_
          refine va_getN (host := "PascalRows") (D := (dC, dI)) (ci := 2) (v := .int o_now_p) (C := RX3) (T := TX3) (N := 10) hx hb hts iX3 hown hK hP 1 rfl rfl 5 (by decide) (hE.nest 5 rfl rfl) (fun _ h9 => h9) rfl dX6_digit_49 ?_
          refine lv_iload_n hx hb dX6_digit_52 rfl (lv_at hl 2 rfl) ?_
          refine lv_iload_n hx hb dX6_digit_53 rfl (lv_at hl 3 rfl) ?_
          obtain ⟨u_6, hu_6, hr⟩ := bd_e hr
          refine ro_S ⟨hx, hb, hml, hown, hts⟩ (k_X0_one l dC dI cI cJ o_now_p p0 p1 u_6 hu_6) (va_cwS 3 hts gX6_digit_X0_one rfl rfl rfl (by decide +kernel) ⟨Nat.le_of_ble_eq_true rfl, Nat.le_of_ble_eq_true rfl⟩) hE (hP.sub [] rfl) rfl hl.1 rfl (Nat.le_of_ble_eq_true rfl) dX6_digit_54 ⟨Nat.zero_le _, Nat.zero_le _⟩ ?_
          refine lv_goto (tgt := 62) hx hb dX6_digit_57 (by decide) ?_
          exact hret 62 ls _ dX6_digit_62 (Option.some.inj hr)
      · have hr := ite_p hr c_4
        refine lv_iload_n hx hb dX6_digit_38 rfl (lv_at hl 0 rfl) ?_
        exact hret 39 ls _ dX6_digit_39 (Option.some.inj hr)
    · have hr := ite_n hr c_2
      refine lv_iconst (v := (-1 : Int32)) hx hb dX6_digit_19 (by decide) ?_
      exact hret 20 ls _ dX6_digit_20 (Option.some.inj hr)
  · have hr := ite_p hr c_1
    refine lv_bipush (v := (-2 : Int32)) hx hb dX6_digit_11 (by decide) ?_
    exact hret 13 ls _ dX6_digit_13 (Option.some.inj hr)
/-! X6_pure -/
def rmX6_pure : Room := { frames := 1, cells := 0, slots := 0, locals := 24 }
set_option maxHeartbeats 4000000 in
set_option maxRecDepth 100000 in
theorem k_X6_pure (l : Launch) (dC : Nat → ClassId) (dI : Nat → Nat → Nat) (cI cJ : ClassId) (a_o : Nat) (a_o_triangle : Nat) (a_o_now : Nat) (a_o_kept : Nat) (a_o_trial : Nat) (a_o_reader : Nat) (a_o_tapes : Nat) (a_o_now_marks : Nat) (a_o_now_seen : Nat) (a_o_now_events : Nat) (a_o_now_book : Nat) (p0 : Int32) (p1 : Int32) (o_hasImage : Int32) (o_now_p : Int32) (o_now_e : Int32) (o_now_modulus : Int32) (o_now_windowRow : Int32) (o_now_windowPlace : Int32) (r : Int32) (hr : f_X6_pure p0 p1 o_now_p = some r) : Met l yX6_pure wsX6_pure rmX6_pure (va_Pc [.ref a_o, .int p0, .int p1] (pE (dC, dI) cI cJ [(a_o, .inr (5, [.ref a_o_triangle, .ref a_o_now, .ref a_o_kept, .ref a_o_trial, .ref a_o_reader, .ref a_o_tapes, .int o_hasImage])), (a_o_now, .inr (2, [.ref a_o_triangle, .ref a_o_now_marks, .ref a_o_now_seen, .ref a_o_now_events, .ref a_o_now_book, .int o_now_p, .int o_now_e, .int o_now_modulus, .int o_now_windowRow, .int o_now_windowPlace]))])) (rq (.int r)) 0 0 nofree := by
  refine ro_of_i (cc := cX6_pure) (maxL := 3) (by decide) rfl (Nat.le_of_ble_eq_true rfl) ?_
  intro p e s m args below meth c Q ls hx hb hml hown hts hE hP hret hl
  have hK := hE.1
  have hl : lv_has ls 3 [(0, .ref a_o), (1, .int p0), (2, .int p1)] := hl
  unfold f_X6_pure at hr
  have iX3 : ∀ w ∈ wsX30, w ∈ wsX6_pure := memr_ (big := wsX6_pure) wsX30 [20, 21, 22, 23, 24, 25, 26, 27, 28, 29] (by decide +kernel)
  have iX6 : ∀ w ∈ wsX60, w ∈ wsX6_pure := memr_ (big := wsX6_pure) wsX60 [13, 14, 15, 16, 17, 18, 19] (by decide +kernel)
  refine lv_iload_n hx hb dX6_pure_0 rfl (lv_at hl 1 rfl) ?_
  refine lv_iconst (v := (1 : Int32)) hx hb dX6_pure_1 (by decide) ?_
  refine lv_sipush (v := (9999 : Int32)) hx hb dX6_pure_2 (by decide) ?_
  refine ro_S ⟨hx, hb, hml, hown, hts⟩ (k_X6_isWithin l dC dI cI cJ p0 (1 : Int32) (9999 : Int32)) (va_cwS 3 hts gX6_pure_X6_isWithin rfl rfl rfl (by decide +kernel) ⟨Nat.le_of_ble_eq_true rfl, Nat.le_of_ble_eq_true rfl⟩) hE (hP.sub [] rfl) rfl hl.1 rfl (Nat.le_of_ble_eq_true rfl) dX6_pure_5 ⟨Nat.zero_le _, Nat.zero_le _⟩ ?_
  refine lv_if_ne (tgt := 14) hx hb dX6_pure_8 (by decide) (fun c_1 => ?_) (fun c_1 => ?_)
  · have hr := ite_n hr c_1
    refine lv_iload_n hx hb dX6_pure_14 rfl (lv_at hl 2 rfl) ?_
    refine lv_iconst (v := (0 : Int32)) hx hb dX6_pure_15 (by decide) ?_
    refine lv_iconst (v := (1 : Int32)) hx hb dX6_pure_16 (by decide) ?_
    refine ro_S ⟨hx, hb, hml, hown, hts⟩ (k_X6_isWithin l dC dI cI cJ p1 (0 : Int32) (1 : Int32)) (va_cwS 3 hts gX6_pure_X6_isWithin rfl rfl rfl (by decide +kernel) ⟨Nat.le_of_ble_eq_true rfl, Nat.le_of_ble_eq_true rfl⟩) hE (hP.sub [] rfl) rfl hl.1 rfl (Nat.le_of_ble_eq_true rfl) dX6_pure_17 ⟨Nat.zero_le _, Nat.zero_le _⟩ ?_
    refine lv_if_ne (tgt := 25) hx hb dX6_pure_20 (by decide) (fun c_2 => ?_) (fun c_2 => ?_)
    · have hr := ite_n hr c_2
      refine lv_iload_n hx hb dX6_pure_25 rfl (lv_at hl 2 rfl) ?_
      refine lv_if_ne (tgt := 43) hx hb dX6_pure_26 (by decide) (fun c_3 => ?_) (fun c_3 => ?_)
      · have hr := ite_n hr c_3
        refine lv_aload_n hx hb dX6_pure_43 rfl (lv_at hl 0 rfl) ?_
        refine va_get (D := (dC, dI)) (ci := 5) (v := .ref a_o_now) (C := RX6) (T := TX6) (N := 7) hx hb hts iX6 hown hK hP 0 rfl rfl 1 (by decide) (hts (.fieldLink RX6 23 "PascalRows" "now" "LPascalRows$Setup;") (List.mem_of_getElem? (i := 1) rfl)) (fun _ h9 => h9) rfl dX6_pure_44 ?_
        refine va_getN (host := "PascalRows") (D := (dC, dI)) (ci := 2) (v := .int o_now_p) (C := RX3) (T := TX3) (N := 10) hx hb hts iX3 hown hK hP 1 rfl rfl 5 (by decide) (hE.nest 5 rfl rfl) (fun _ h9 => h9) rfl dX6_pure_47 ?_
        refine lv_iload_n hx hb dX6_pure_50 rfl (lv_at hl 1 rfl) ?_
        obtain ⟨u_4, hu_4, hr⟩ := bd_e hr
        refine ro_S ⟨hx, hb, hml, hown, hts⟩ (k_X0_timesDivided l dC dI cI cJ o_now_p p0 u_4 hu_4) (va_cwS 2 hts gX6_pure_X0_timesDivided rfl rfl rfl (by decide +kernel) ⟨Nat.le_of_ble_eq_true rfl, Nat.le_of_ble_eq_true rfl⟩) hE (hP.sub [] rfl) rfl hl.1 rfl (Nat.le_of_ble_eq_true rfl) dX6_pure_51 ⟨Nat.zero_le _, Nat.zero_le _⟩ ?_
        exact hret 54 ls _ dX6_pure_54 (Option.some.inj hr)
      · have hr := ite_p hr c_3
        refine lv_aload_n hx hb dX6_pure_29 rfl (lv_at hl 0 rfl) ?_
        refine va_get (D := (dC, dI)) (ci := 5) (v := .ref a_o_now) (C := RX6) (T := TX6) (N := 7) hx hb hts iX6 hown hK hP 0 rfl rfl 1 (by decide) (hts (.fieldLink RX6 23 "PascalRows" "now" "LPascalRows$Setup;") (List.mem_of_getElem? (i := 1) rfl)) (fun _ h9 => h9) rfl dX6_pure_30 ?_
        refine va_getN (host := "PascalRows") (D := (dC, dI)) (ci := 2) (v := .int o_now_p) (C := RX3) (T := TX3) (N := 10) hx hb hts iX3 hown hK hP 1 rfl rfl 5 (by decide) (hE.nest 5 rfl rfl) (fun _ h9 => h9) rfl dX6_pure_33 ?_
        refine lv_iload_n hx hb dX6_pure_36 rfl (lv_at hl 1 rfl) ?_
        obtain ⟨u_5, hu_5, hr⟩ := bd_e hr
        refine ro_S ⟨hx, hb, hml, hown, hts⟩ (k_X0_withoutPrime l dC dI cI cJ o_now_p p0 u_5 hu_5) (va_cwS 2 hts gX6_pure_X0_withoutPrime rfl rfl rfl (by decide +kernel) ⟨Nat.le_of_ble_eq_true rfl, Nat.le_of_ble_eq_true rfl⟩) hE (hP.sub [] rfl) rfl hl.1 rfl (Nat.le_of_ble_eq_true rfl) dX6_pure_37 ⟨Nat.zero_le _, Nat.zero_le _⟩ ?_
        refine lv_goto (tgt := 54) hx hb dX6_pure_40 (by decide) ?_
        exact hret 54 ls _ dX6_pure_54 (Option.some.inj hr)
    · have hr := ite_p hr c_2
      refine lv_iconst (v := (-1 : Int32)) hx hb dX6_pure_23 (by decide) ?_
      exact hret 24 ls _ dX6_pure_24 (Option.some.inj hr)
  · have hr := ite_p hr c_1
    refine lv_bipush (v := (-2 : Int32)) hx hb dX6_pure_11 (by decide) ?_
    exact hret 13 ls _ dX6_pure_13 (Option.some.inj hr)
/-! X6_countOf -/
def rmX6_countOf : Room := { frames := 3, cells := 0, slots := 0, locals := 69 }
set_option maxHeartbeats 4000000 in
set_option maxRecDepth 100000 in
theorem k_X6_countOf (l : Launch) (dC : Nat → ClassId) (dI : Nat → Nat → Nat) (cI cJ : ClassId) (a_o : Nat) (a_o_triangle : Nat) (a_o_now : Nat) (a_o_kept : Nat) (a_o_trial : Nat) (a_o_reader : Nat) (a_o_tapes : Nat) (a_o_triangle_halves : Nat) (a_o_now_marks : Nat) (a_o_now_seen : Nat) (a_o_now_events : Nat) (a_o_now_book : Nat) (p0 : Int32) (p1 : Int32) (o_hasImage : Int32) (o_triangle_halves : Nat → Int32) (o_now_p : Int32) (o_now_e : Int32) (o_now_modulus : Int32) (o_now_windowRow : Int32) (o_now_windowPlace : Int32) (r : Int32) (hr : f_X6_countOf p0 p1 o_triangle_halves o_now_modulus = some r) : Met l yX6_countOf wsX6_countOf rmX6_countOf (va_Pc [.ref a_o, .int p0, .int p1] (pE (dC, dI) cI cJ [(a_o, .inr (5, [.ref a_o_triangle, .ref a_o_now, .ref a_o_kept, .ref a_o_trial, .ref a_o_reader, .ref a_o_tapes, .int o_hasImage])), (a_o_triangle, .inr (4, [.ref a_o_triangle_halves])), (a_o_triangle_halves, .inl (cI, 4160, .inl o_triangle_halves)), (a_o_now, .inr (2, [.ref a_o_triangle, .ref a_o_now_marks, .ref a_o_now_seen, .ref a_o_now_events, .ref a_o_now_book, .int o_now_p, .int o_now_e, .int o_now_modulus, .int o_now_windowRow, .int o_now_windowPlace]))])) (rq (.int r)) 0 0 nofree := by
  refine ro_of_i (cc := cX6_countOf) (maxL := 5) (by decide) rfl (Nat.le_of_ble_eq_true rfl) ?_
  intro p e s m args below meth c Q ls hx hb hml hown hts hE hP hret hl
  have hK := hE.1
  have hl : lv_has ls 5 [(0, .ref a_o), (1, .int p0), (2, .int p1)] := hl
  unfold f_X6_countOf at hr
  have iX3 : ∀ w ∈ wsX30, w ∈ wsX6_countOf := memr_ (big := wsX6_countOf) wsX30 [26, 27, 28, 29, 30, 31, 32, 33, 34, 35] (by decide +kernel)
  have iX5 : ∀ w ∈ wsX50, w ∈ wsX6_countOf := memr_ (big := wsX6_countOf) wsX50 [36] (by decide +kernel)
  have iX6 : ∀ w ∈ wsX60, w ∈ wsX6_countOf := memr_ (big := wsX6_countOf) wsX60 [19, 20, 21, 22, 23, 24, 25] (by decide +kernel)
  refine lv_iconst (v := (0 : Int32)) hx hb dX6_countOf_0 (by decide) ?_
  refine lv_istore_n (lv' := [(3, .int (0 : Int32)), (0, .ref a_o), (1, .int p0), (2, .int p1)]) hx hb dX6_countOf_1 rfl hl (by decide) rfl (fun ls hl => ?_)
  refine lv_iconst (v := (0 : Int32)) hx hb dX6_countOf_2 (by decide) ?_
  refine lv_istore (lv' := [(4, .int (0 : Int32)), (3, .int (0 : Int32)), (0, .ref a_o), (1, .int p0), (2, .int p1)]) hx hb dX6_countOf_3 hl (by decide) rfl (fun ls hl => ?_)
  have hL5 : ∀ (v1_5 : Int32) (v2_5 : Int32) (k_5 : Int32 → Option (Int32)) (hk : ∀ (x3_5 : Int32) (ls : Array Slot), lv_has ls 5 [(3, .int x3_5)] → k_5 x3_5 = some r → W p l e rmX6_countOf s m args below meth c s.heap [] 0 0 Q (F0 m 34 ls [])) (fuel : Nat) (v3_5 : Int32) (v4_5 : Int32) (ls : Array Slot), lv_has ls 5 [(0, .ref a_o), (1, .int v1_5), (2, .int v2_5), (3, .int v3_5), (4, .int v4_5)] → f_X6_countOf_L5 k_5 v1_5 v2_5 o_triangle_halves o_now_modulus fuel v3_5 v4_5 = some r → W p l e rmX6_countOf s m args below meth c s.heap [] 0 0 Q (F0 m 5 ls []) := by
    intro v1_5 v2_5 k_5 hk fuel
    induction fuel with
    | zero =>
      intro v3_5 v4_5 ls hl hr
      rw [f_X6_countOf_L5_z] at hr
      cases hr
    | succ fuel ih =>
      intro v3_5 v4_5 ls hl hr
      rw [f_X6_countOf_L5_s] at hr
      refine lv_iload hx hb dX6_countOf_5 (lv_at hl 4 rfl) ?_
      refine lv_iload_n hx hb dX6_countOf_7 rfl (lv_at hl 1 rfl) ?_
      refine lv_icmp_gt (tgt := 34) hx hb dX6_countOf_8 (by decide) (fun c_1 => ?_) (fun c_1 => ?_)
      · have hr := ite_p hr c_1
        exact hk v3_5 ls (lv_sub hl [3] rfl) hr
      · have hr := ite_n hr c_1
        refine lv_aload_n hx hb dX6_countOf_11 rfl (lv_at hl 0 rfl) ?_
        refine va_get (D := (dC, dI)) (ci := 5) (v := .ref a_o_now) (C := RX6) (T := TX6) (N := 7) hx hb hts iX6 hown hK hP 0 rfl rfl 1 (by decide) (hts (.fieldLink RX6 23 "PascalRows" "now" "LPascalRows$Setup;") (List.mem_of_getElem? (i := 1) rfl)) (fun _ h9 => h9) rfl dX6_countOf_12 ?_
        refine lv_iload_n hx hb dX6_countOf_15 rfl (lv_at hl 1 rfl) ?_
        refine lv_iload hx hb dX6_countOf_16 (lv_at hl 4 rfl) ?_
        obtain ⟨u_2, hu_2, hr⟩ := bd_e hr
        refine ro_V ⟨hx, hb, hml, hown, hts⟩ (k_X3_remainder l dC dI cI cJ a_o_now a_o_triangle a_o_now_marks a_o_now_seen a_o_now_events a_o_now_book a_o_triangle_halves v1_5 v4_5 o_now_p o_now_e o_now_modulus o_now_windowRow o_now_windowPlace o_triangle_halves u_2 hu_2) (cwV 2 hts gX6_countOf_X3_remainder rfl rfl rfl (by decide +kernel) ⟨Nat.le_of_ble_eq_true rfl, Nat.le_of_ble_eq_true rfl⟩) hE hP 3 rfl rfl rfl (hP.sub [3, 1, 2] rfl) rfl hl.1 rfl (Nat.le_of_ble_eq_true rfl) dX6_countOf_18 ⟨Nat.zero_le _, Nat.zero_le _⟩ ?_
        refine lv_iload_n hx hb dX6_countOf_21 rfl (lv_at hl 2 rfl) ?_
        have hJ_3 : ∀ (y_4 : Int32) (ey_4 : y_4 = (if (¬ (u_2 = v2_5)) then v3_5 else (v3_5 + (1 : Int32)))) (ls : Array Slot), lv_has ls 5 [(0, .ref a_o), (1, .int v1_5), (2, .int v2_5), (3, .int y_4), (4, .int v4_5)] → W p l e rmX6_countOf s m args below meth c s.heap [] 0 0 Q (F0 m 28 ls []) := by
          intro y_4 ey_4 ls hl
          subst ey_4
          refine lv_iinc (v := (v4_5 + (1 : Int32))) (lv' := [(4, .int (v4_5 + (1 : Int32))), (0, .ref a_o), (1, .int v1_5), (2, .int v2_5), (3, .int (if (¬ (u_2 = v2_5)) then v3_5 else (v3_5 + (1 : Int32))))]) hx hb dX6_countOf_28 hl (k := 4) rfl (congrArg (fun z => v4_5 + z) (by decide)) (by decide) rfl (fun ls hl => ?_)
          refine lv_goto (tgt := 5) hx hb dX6_countOf_31 (by decide) ?_
          exact ih (if (¬ (u_2 = v2_5)) then v3_5 else (v3_5 + (1 : Int32))) (v4_5 + (1 : Int32)) ls (lv_sub hl [1, 2, 3, 4, 0] rfl) hr
        refine lv_icmp_ne (tgt := 28) hx hb dX6_countOf_22 (by decide) (fun c_5 => ?_) (fun c_5 => ?_)
        · exact hJ_3 _ (if_pos c_5).symm ls (lv_sub hl [0, 1, 2, 3, 4] rfl)
        · refine lv_iinc (v := (v3_5 + (1 : Int32))) (lv' := [(3, .int (v3_5 + (1 : Int32))), (0, .ref a_o), (1, .int v1_5), (2, .int v2_5), (4, .int v4_5)]) hx hb dX6_countOf_25 hl (k := 3) rfl (congrArg (fun z => v3_5 + z) (by decide)) (by decide) rfl (fun ls hl => ?_)
          exact hJ_3 _ (if_neg (fun h => h c_5)).symm ls (lv_sub hl [1, 2, 3, 0, 4] rfl)
  refine hL5 p0 p1 _ (fun x3_5 ls hl hr => ?_) 5000 (0 : Int32) (0 : Int32) ls (lv_sub hl [2, 3, 4, 1, 0] rfl) hr
  refine lv_iload_n hx hb dX6_countOf_34 rfl (lv_at hl 0 rfl) ?_
  exact hret 35 ls _ dX6_countOf_35 (Option.some.inj hr)
/-! X6_counted -/
def rmX6_counted : Room := { frames := 4, cells := 0, slots := 0, locals := 93 }
set_option maxHeartbeats 4000000 in
set_option maxRecDepth 100000 in
theorem k_X6_counted (l : Launch) (dC : Nat → ClassId) (dI : Nat → Nat → Nat) (cI cJ : ClassId) (a_o : Nat) (a_o_triangle : Nat) (a_o_now : Nat) (a_o_kept : Nat) (a_o_trial : Nat) (a_o_reader : Nat) (a_o_tapes : Nat) (a_o_triangle_halves : Nat) (a_o_now_marks : Nat) (a_o_now_seen : Nat) (a_o_now_events : Nat) (a_o_now_book : Nat) (p0 : Int32) (p1 : Int32) (o_hasImage : Int32) (o_triangle_halves : Nat → Int32) (o_now_p : Int32) (o_now_e : Int32) (o_now_modulus : Int32) (o_now_windowRow : Int32) (o_now_windowPlace : Int32) (r : Int32) (hr : f_X6_counted p0 p1 o_triangle_halves o_now_modulus = some r) : Met l yX6_counted wsX6_counted rmX6_counted (va_Pc [.ref a_o, .int p0, .int p1] (pE (dC, dI) cI cJ [(a_o, .inr (5, [.ref a_o_triangle, .ref a_o_now, .ref a_o_kept, .ref a_o_trial, .ref a_o_reader, .ref a_o_tapes, .int o_hasImage])), (a_o_triangle, .inr (4, [.ref a_o_triangle_halves])), (a_o_triangle_halves, .inl (cI, 4160, .inl o_triangle_halves)), (a_o_now, .inr (2, [.ref a_o_triangle, .ref a_o_now_marks, .ref a_o_now_seen, .ref a_o_now_events, .ref a_o_now_book, .int o_now_p, .int o_now_e, .int o_now_modulus, .int o_now_windowRow, .int o_now_windowPlace]))])) (rq (.int r)) 0 0 nofree := by
  refine ro_of_i (cc := cX6_counted) (maxL := 3) (by decide) rfl (Nat.le_of_ble_eq_true rfl) ?_
  intro p e s m args below meth c Q ls hx hb hml hown hts hE hP hret hl
  have hK := hE.1
  have hl : lv_has ls 3 [(0, .ref a_o), (1, .int p0), (2, .int p1)] := hl
  unfold f_X6_counted at hr
  have iX3 : ∀ w ∈ wsX30, w ∈ wsX6_counted := memr_ (big := wsX6_counted) wsX30 [37, 38, 39, 40, 41, 42, 43, 44, 45, 46] (by decide +kernel)
  have iX5 : ∀ w ∈ wsX50, w ∈ wsX6_counted := memr_ (big := wsX6_counted) wsX50 [47] (by decide +kernel)
  have iX6 : ∀ w ∈ wsX60, w ∈ wsX6_counted := memr_ (big := wsX6_counted) wsX60 [30, 31, 32, 33, 34, 35, 36] (by decide +kernel)
  refine lv_iload_n hx hb dX6_counted_0 rfl (lv_at hl 1 rfl) ?_
  refine ro_S ⟨hx, hb, hml, hown, hts⟩ (k_X6_isRow l dC dI cI cJ p0) (va_cwS 1 hts gX6_counted_X6_isRow rfl rfl rfl (by decide +kernel) ⟨Nat.le_of_ble_eq_true rfl, Nat.le_of_ble_eq_true rfl⟩) hE (hP.sub [] rfl) rfl hl.1 rfl (Nat.le_of_ble_eq_true rfl) dX6_counted_1 ⟨Nat.zero_le _, Nat.zero_le _⟩ ?_
  refine lv_if_eq (tgt := 16) hx hb dX6_counted_4 (by decide) (fun c_1 => ?_) (fun c_1 => ?_)
  · have hr := ite_p hr c_1
    refine lv_iconst (v := (-1 : Int32)) hx hb dX6_counted_16 (by decide) ?_
    exact hret 17 ls _ dX6_counted_17 (Option.some.inj hr)
  · have hr := ite_n hr c_1
    refine lv_aload_n hx hb dX6_counted_7 rfl (lv_at hl 0 rfl) ?_
    refine lv_iload_n hx hb dX6_counted_8 rfl (lv_at hl 1 rfl) ?_
    refine lv_iload_n hx hb dX6_counted_9 rfl (lv_at hl 2 rfl) ?_
    obtain ⟨u_2, hu_2, hr⟩ := bd_e hr
    refine ro_V ⟨hx, hb, hml, hown, hts⟩ (k_X6_countOf l dC dI cI cJ a_o a_o_triangle a_o_now a_o_kept a_o_trial a_o_reader a_o_tapes a_o_triangle_halves a_o_now_marks a_o_now_seen a_o_now_events a_o_now_book p0 p1 o_hasImage o_triangle_halves o_now_p o_now_e o_now_modulus o_now_windowRow o_now_windowPlace u_2 hu_2) (cwV 2 hts gX6_counted_X6_countOf rfl rfl rfl (by decide +kernel) ⟨Nat.le_of_ble_eq_true rfl, Nat.le_of_ble_eq_true rfl⟩) hE hP 0 rfl rfl rfl (hP.sub [0, 1, 2, 3] rfl) rfl hl.1 rfl (Nat.le_of_ble_eq_true rfl) dX6_counted_10 ⟨Nat.zero_le _, Nat.zero_le _⟩ ?_
    refine lv_goto (tgt := 17) hx hb dX6_counted_13 (by decide) ?_
    exact hret 17 ls _ dX6_counted_17 (Option.some.inj hr)
/-! X6_nextKind -/
def rmX6_nextKind : Room := { frames := 3, cells := 0, slots := 0, locals := 69 }
set_option maxHeartbeats 4000000 in
set_option maxRecDepth 100000 in
theorem k_X6_nextKind (l : Launch) (dC : Nat → ClassId) (dI : Nat → Nat → Nat) (cI cJ : ClassId) (a_o : Nat) (a_o_triangle : Nat) (a_o_now : Nat) (a_o_kept : Nat) (a_o_trial : Nat) (a_o_reader : Nat) (a_o_tapes : Nat) (a_o_triangle_halves : Nat) (a_o_now_marks : Nat) (a_o_now_seen : Nat) (a_o_now_events : Nat) (a_o_now_book : Nat) (p0 : Int32) (p1 : Int32) (o_hasImage : Int32) (o_triangle_halves : Nat → Int32) (o_now_p : Int32) (o_now_e : Int32) (o_now_modulus : Int32) (o_now_windowRow : Int32) (o_now_windowPlace : Int32) (r : Int32) (hr : f_X6_nextKind p0 p1 o_triangle_halves o_now_modulus = some r) : Met l yX6_nextKind wsX6_nextKind rmX6_nextKind (va_Pc [.ref a_o, .int p0, .int p1] (pE (dC, dI) cI cJ [(a_o, .inr (5, [.ref a_o_triangle, .ref a_o_now, .ref a_o_kept, .ref a_o_trial, .ref a_o_reader, .ref a_o_tapes, .int o_hasImage])), (a_o_triangle, .inr (4, [.ref a_o_triangle_halves])), (a_o_triangle_halves, .inl (cI, 4160, .inl o_triangle_halves)), (a_o_now, .inr (2, [.ref a_o_triangle, .ref a_o_now_marks, .ref a_o_now_seen, .ref a_o_now_events, .ref a_o_now_book, .int o_now_p, .int o_now_e, .int o_now_modulus, .int o_now_windowRow, .int o_now_windowPlace]))])) (rq (.int r)) 0 0 nofree := by
  refine ro_of_i (cc := cX6_nextKind) (maxL := 6) (by decide) rfl (Nat.le_of_ble_eq_true rfl) ?_
  intro p e s m args below meth c Q ls hx hb hml hown hts hE hP hret hl
  have hK := hE.1
  have hl : lv_has ls 6 [(0, .ref a_o), (1, .int p0), (2, .int p1)] := hl
  unfold f_X6_nextKind at hr
  have iX3 : ∀ w ∈ wsX30, w ∈ wsX6_nextKind := memr_ (big := wsX6_nextKind) wsX30 [26, 27, 28, 29, 30, 31, 32, 33, 34, 35] (by decide +kernel)
  have iX5 : ∀ w ∈ wsX50, w ∈ wsX6_nextKind := memr_ (big := wsX6_nextKind) wsX50 [36] (by decide +kernel)
  have iX6 : ∀ w ∈ wsX60, w ∈ wsX6_nextKind := memr_ (big := wsX6_nextKind) wsX60 [19, 20, 21, 22, 23, 24, 25] (by decide +kernel)
  refine lv_iconst (v := (-1 : Int32)) hx hb dX6_nextKind_0 (by decide) ?_
  refine lv_istore_n (lv' := [(3, .int (-1 : Int32)), (0, .ref a_o), (1, .int p0), (2, .int p1)]) hx hb dX6_nextKind_1 rfl hl (by decide) rfl (fun ls hl => ?_)
  refine lv_iconst (v := (0 : Int32)) hx hb dX6_nextKind_2 (by decide) ?_
  refine lv_istore (lv' := [(4, .int (0 : Int32)), (3, .int (-1 : Int32)), (0, .ref a_o), (1, .int p0), (2, .int p1)]) hx hb dX6_nextKind_3 hl (by decide) rfl (fun ls hl => ?_)
  have hL5 : ∀ (v1_5 : Int32) (v2_5 : Int32) (k_5 : Int32 → Option (Int32)) (hk : ∀ (x3_5 : Int32) (ls : Array Slot), lv_has ls 6 [(3, .int x3_5)] → k_5 x3_5 = some r → W p l e rmX6_nextKind s m args below meth c s.heap [] 0 0 Q (F0 m 51 ls [])) (fuel : Nat) (v3_5 : Int32) (v4_5 : Int32) (ls : Array Slot), lv_has ls 6 [(0, .ref a_o), (1, .int v1_5), (2, .int v2_5), (3, .int v3_5), (4, .int v4_5)] → f_X6_nextKind_L5 k_5 v1_5 v2_5 o_triangle_halves o_now_modulus fuel v3_5 v4_5 = some r → W p l e rmX6_nextKind s m args below meth c s.heap [] 0 0 Q (F0 m 5 ls []) := by
    intro v1_5 v2_5 k_5 hk fuel
    induction fuel with
    | zero =>
      intro v3_5 v4_5 ls hl hr
      rw [f_X6_nextKind_L5_z] at hr
      cases hr
    | succ fuel ih =>
      intro v3_5 v4_5 ls hl hr
      rw [f_X6_nextKind_L5_s] at hr
      refine lv_iload hx hb dX6_nextKind_5 (lv_at hl 4 rfl) ?_
      refine lv_iload_n hx hb dX6_nextKind_7 rfl (lv_at hl 1 rfl) ?_
      refine lv_iconst (v := (2 : Int32)) hx hb dX6_nextKind_8 (by decide) ?_
      obtain ⟨d_1, ed_1, hd_1, hr⟩ := dv_e hr
      refine lv_idiv hx hb dX6_nextKind_9 hd_1 ?_
      refine tp_ ed_1 ?_
      refine lv_icmp_gt (tgt := 51) hx hb dX6_nextKind_10 (by decide) (fun c_2 => ?_) (fun c_2 => ?_)
      · have hr := ite_p hr c_2
        exact hk v3_5 ls (lv_sub hl [3] rfl) hr
      · have hr := ite_n hr c_2
        refine lv_aload_n hx hb dX6_nextKind_13 rfl (lv_at hl 0 rfl) ?_
        refine va_get (D := (dC, dI)) (ci := 5) (v := .ref a_o_now) (C := RX6) (T := TX6) (N := 7) hx hb hts iX6 hown hK hP 0 rfl rfl 1 (by decide) (hts (.fieldLink RX6 23 "PascalRows" "now" "LPascalRows$Setup;") (List.mem_of_getElem? (i := 1) rfl)) (fun _ h9 => h9) rfl dX6_nextKind_14 ?_
        refine lv_iload_n hx hb dX6_nextKind_17 rfl (lv_at hl 1 rfl) ?_
        refine lv_iload hx hb dX6_nextKind_18 (lv_at hl 4 rfl) ?_
        obtain ⟨u_3, hu_3, hr⟩ := bd_e hr
        refine ro_V ⟨hx, hb, hml, hown, hts⟩ (k_X3_remainder l dC dI cI cJ a_o_now a_o_triangle a_o_now_marks a_o_now_seen a_o_now_events a_o_now_book a_o_triangle_halves v1_5 v4_5 o_now_p o_now_e o_now_modulus o_now_windowRow o_now_windowPlace o_triangle_halves u_3 hu_3) (cwV 2 hts gX6_nextKind_X3_remainder rfl rfl rfl (by decide +kernel) ⟨Nat.le_of_ble_eq_true rfl, Nat.le_of_ble_eq_true rfl⟩) hE hP 3 rfl rfl rfl (hP.sub [3, 1, 2] rfl) rfl hl.1 rfl (Nat.le_of_ble_eq_true rfl) dX6_nextKind_20 ⟨Nat.zero_le _, Nat.zero_le _⟩ ?_
        refine lv_istore (lv' := [(5, .int u_3), (0, .ref a_o), (1, .int v1_5), (2, .int v2_5), (3, .int v3_5), (4, .int v4_5)]) hx hb dX6_nextKind_23 hl (by decide) rfl (fun ls hl => ?_)
        refine lv_iload hx hb dX6_nextKind_25 (lv_at hl 0 rfl) ?_
        refine lv_iload_n hx hb dX6_nextKind_27 rfl (lv_at hl 3 rfl) ?_
        have hJ_4 : ∀ (y_5 : Int32) (ey_5 : y_5 = (if ((u_3 ≤ v2_5) ∨ ((¬ (v3_5 = (-1 : Int32))) ∧ (v3_5 ≤ u_3))) then v3_5 else u_3)) (ls : Array Slot), lv_has ls 6 [(0, .ref a_o), (1, .int v1_5), (2, .int v2_5), (3, .int y_5), (4, .int v4_5)] → W p l e rmX6_nextKind s m args below meth c s.heap [] 0 0 Q (F0 m 45 ls []) := by
          intro y_5 ey_5 ls hl
          have hr := qn_e hr ey_5
          refine lv_iinc (v := (v4_5 + (1 : Int32))) (lv' := [(4, .int (v4_5 + (1 : Int32))), (0, .ref a_o), (1, .int v1_5), (2, .int v2_5), (3, .int y_5)]) hx hb dX6_nextKind_45 hl (k := 4) rfl (congrArg (fun z => v4_5 + z) (by decide)) (by decide) rfl (fun ls hl => ?_)
          refine lv_goto (tgt := 5) hx hb dX6_nextKind_48 (by decide) ?_
          exact ih y_5 (v4_5 + (1 : Int32)) ls (lv_sub hl [1, 2, 3, 4, 0] rfl) hr
        refine lv_icmp_le (tgt := 45) hx hb dX6_nextKind_28 (by decide) (fun c_6 => ?_) (fun c_6 => ?_)
        · exact hJ_4 _ (if_pos (Or.inl c_6)).symm ls (lv_sub hl [1, 2, 3, 4, 5] rfl)
        · refine lv_iload_n hx hb dX6_nextKind_31 rfl (lv_at hl 4 rfl) ?_
          refine lv_iconst (v := (-1 : Int32)) hx hb dX6_nextKind_32 (by decide) ?_
          refine lv_icmp_eq (tgt := 42) hx hb dX6_nextKind_33 (by decide) (fun c_7 => ?_) (fun c_7 => ?_)
          · refine lv_iload hx hb dX6_nextKind_42 (lv_at hl 0 rfl) ?_
            refine lv_istore_n (lv' := [(3, .int u_3), (5, .int u_3), (0, .ref a_o), (1, .int v1_5), (2, .int v2_5), (4, .int v4_5)]) hx hb dX6_nextKind_44 rfl hl (by decide) rfl (fun ls hl => ?_)
            exact hJ_4 _ (if_neg (fun h => h.elim c_6 (fun h => (fun h => h c_7) h.1))).symm ls (lv_sub hl [2, 3, 4, 0, 5] rfl)
          · refine lv_iload hx hb dX6_nextKind_36 (lv_at hl 0 rfl) ?_
            refine lv_iload_n hx hb dX6_nextKind_38 rfl (lv_at hl 4 rfl) ?_
            refine lv_icmp_ge (tgt := 45) hx hb dX6_nextKind_39 (by decide) (fun c_8 => ?_) (fun c_8 => ?_)
            · exact hJ_4 _ (if_pos (Or.inr ⟨c_7, c_8⟩)).symm ls (lv_sub hl [1, 2, 3, 4, 5] rfl)
            · refine lv_iload hx hb dX6_nextKind_42 (lv_at hl 0 rfl) ?_
              refine lv_istore_n (lv' := [(3, .int u_3), (5, .int u_3), (0, .ref a_o), (1, .int v1_5), (2, .int v2_5), (4, .int v4_5)]) hx hb dX6_nextKind_44 rfl hl (by decide) rfl (fun ls hl => ?_)
              exact hJ_4 _ (if_neg (fun h => h.elim c_6 (fun h => c_8 h.2))).symm ls (lv_sub hl [2, 3, 4, 0, 5] rfl)
  refine hL5 p0 p1 _ (fun x3_5 ls hl hr => ?_) 5000 (-1 : Int32) (0 : Int32) ls (lv_sub hl [2, 3, 4, 1, 0] rfl) hr
  refine lv_iload_n hx hb dX6_nextKind_51 rfl (lv_at hl 0 rfl) ?_
  exact hret 52 ls _ dX6_nextKind_52 (Option.some.inj hr)
/-! X6_kindsOf -/
def rmX6_kindsOf : Room := { frames := 4, cells := 0, slots := 0, locals := 94 }
set_option maxHeartbeats 4000000 in
set_option maxRecDepth 100000 in
theorem k_X6_kindsOf (l : Launch) (dC : Nat → ClassId) (dI : Nat → Nat → Nat) (cI cJ : ClassId) (a_o : Nat) (a_o_triangle : Nat) (a_o_now : Nat) (a_o_kept : Nat) (a_o_trial : Nat) (a_o_reader : Nat) (a_o_tapes : Nat) (a_o_triangle_halves : Nat) (a_o_now_marks : Nat) (a_o_now_seen : Nat) (a_o_now_events : Nat) (a_o_now_book : Nat) (p0 : Int32) (o_hasImage : Int32) (o_triangle_halves : Nat → Int32) (o_now_p : Int32) (o_now_e : Int32) (o_now_modulus : Int32) (o_now_windowRow : Int32) (o_now_windowPlace : Int32) (r : Int32) (hr : f_X6_kindsOf p0 o_triangle_halves o_now_modulus = some r) : Met l yX6_kindsOf wsX6_kindsOf rmX6_kindsOf (va_Pc [.ref a_o, .int p0] (pE (dC, dI) cI cJ [(a_o, .inr (5, [.ref a_o_triangle, .ref a_o_now, .ref a_o_kept, .ref a_o_trial, .ref a_o_reader, .ref a_o_tapes, .int o_hasImage])), (a_o_triangle, .inr (4, [.ref a_o_triangle_halves])), (a_o_triangle_halves, .inl (cI, 4160, .inl o_triangle_halves)), (a_o_now, .inr (2, [.ref a_o_triangle, .ref a_o_now_marks, .ref a_o_now_seen, .ref a_o_now_events, .ref a_o_now_book, .int o_now_p, .int o_now_e, .int o_now_modulus, .int o_now_windowRow, .int o_now_windowPlace]))])) (rq (.int r)) 0 0 nofree := by
  refine ro_of_i (cc := cX6_kindsOf) (maxL := 4) (by decide) rfl (Nat.le_of_ble_eq_true rfl) ?_
  intro p e s m args below meth c Q ls hx hb hml hown hts hE hP hret hl
  have hK := hE.1
  have hl : lv_has ls 4 [(0, .ref a_o), (1, .int p0)] := hl
  unfold f_X6_kindsOf at hr
  have iX3 : ∀ w ∈ wsX30, w ∈ wsX6_kindsOf := memr_ (big := wsX6_kindsOf) wsX30 [31, 32, 33, 34, 35, 36, 37, 38, 39, 40] (by decide +kernel)
  have iX5 : ∀ w ∈ wsX50, w ∈ wsX6_kindsOf := memr_ (big := wsX6_kindsOf) wsX50 [41] (by decide +kernel)
  have iX6 : ∀ w ∈ wsX60, w ∈ wsX6_kindsOf := memr_ (big := wsX6_kindsOf) wsX60 [24, 25, 26, 27, 28, 29, 30] (by decide +kernel)
  refine lv_iconst (v := (-1 : Int32)) hx hb dX6_kindsOf_0 (by decide) ?_
  refine lv_istore_n (lv' := [(2, .int (-1 : Int32)), (0, .ref a_o), (1, .int p0)]) hx hb dX6_kindsOf_1 rfl hl (by decide) rfl (fun ls hl => ?_)
  refine lv_iconst (v := (0 : Int32)) hx hb dX6_kindsOf_2 (by decide) ?_
  refine lv_istore_n (lv' := [(3, .int (0 : Int32)), (2, .int (-1 : Int32)), (0, .ref a_o), (1, .int p0)]) hx hb dX6_kindsOf_3 rfl hl (by decide) rfl (fun ls hl => ?_)
  have hL4 : ∀ (v1_4 : Int32) (k_4 : Option (Int32)) (hk : ∀  (ls : Array Slot), lv_has ls 4 [(1, .int v1_4)] → k_4 = some r → W p l e rmX6_kindsOf s m args below meth c s.heap [] 0 0 Q (F0 m 29 ls [])) (fuel : Nat) (v2_4 : Int32) (v3_4 : Int32) (ls : Array Slot), lv_has ls 4 [(0, .ref a_o), (1, .int v1_4), (2, .int v2_4), (3, .int v3_4)] → f_X6_kindsOf_L4 k_4 v1_4 o_triangle_halves o_now_modulus fuel v2_4 v3_4 = some r → W p l e rmX6_kindsOf s m args below meth c s.heap [] 0 0 Q (F0 m 4 ls []) := by
    intro v1_4 k_4 hk fuel
    induction fuel with
    | zero =>
      intro v2_4 v3_4 ls hl hr
      rw [f_X6_kindsOf_L4_z] at hr
      cases hr
    | succ fuel ih =>
      intro v2_4 v3_4 ls hl hr
      rw [f_X6_kindsOf_L4_s] at hr
      refine lv_iload_n hx hb dX6_kindsOf_4 rfl (lv_at hl 3 rfl) ?_
      refine lv_iload_n hx hb dX6_kindsOf_5 rfl (lv_at hl 1 rfl) ?_
      refine lv_icmp_gt (tgt := 29) hx hb dX6_kindsOf_6 (by decide) (fun c_1 => ?_) (fun c_1 => ?_)
      · have hr := ite_p hr c_1
        exact hk  ls (lv_sub hl [1] rfl) hr
      · have hr := ite_n hr c_1
        refine lv_aload_n hx hb dX6_kindsOf_9 rfl (lv_at hl 0 rfl) ?_
        refine lv_iload_n hx hb dX6_kindsOf_10 rfl (lv_at hl 1 rfl) ?_
        refine lv_iload_n hx hb dX6_kindsOf_11 rfl (lv_at hl 2 rfl) ?_
        obtain ⟨u_2, hu_2, hr⟩ := bd_e hr
        refine ro_V ⟨hx, hb, hml, hown, hts⟩ (k_X6_nextKind l dC dI cI cJ a_o a_o_triangle a_o_now a_o_kept a_o_trial a_o_reader a_o_tapes a_o_triangle_halves a_o_now_marks a_o_now_seen a_o_now_events a_o_now_book v1_4 v2_4 o_hasImage o_triangle_halves o_now_p o_now_e o_now_modulus o_now_windowRow o_now_windowPlace u_2 hu_2) (cwV 2 hts gX6_kindsOf_X6_nextKind rfl rfl rfl (by decide +kernel) ⟨Nat.le_of_ble_eq_true rfl, Nat.le_of_ble_eq_true rfl⟩) hE hP 0 rfl rfl rfl (hP.sub [0, 1, 2, 3] rfl) rfl hl.1 rfl (Nat.le_of_ble_eq_true rfl) dX6_kindsOf_12 ⟨Nat.zero_le _, Nat.zero_le _⟩ ?_
        refine lv_istore_n (lv' := [(2, .int u_2), (0, .ref a_o), (1, .int v1_4), (3, .int v3_4)]) hx hb dX6_kindsOf_15 rfl hl (by decide) rfl (fun ls hl => ?_)
        refine lv_iload_n hx hb dX6_kindsOf_16 rfl (lv_at hl 0 rfl) ?_
        refine lv_iconst (v := (-1 : Int32)) hx hb dX6_kindsOf_17 (by decide) ?_
        refine lv_icmp_ne (tgt := 23) hx hb dX6_kindsOf_18 (by decide) (fun c_3 => ?_) (fun c_3 => ?_)
        · have hr := ite_n hr c_3
          refine lv_iinc (v := (v3_4 + (1 : Int32))) (lv' := [(3, .int (v3_4 + (1 : Int32))), (2, .int u_2), (0, .ref a_o), (1, .int v1_4)]) hx hb dX6_kindsOf_23 hl (k := 3) rfl (congrArg (fun z => v3_4 + z) (by decide)) (by decide) rfl (fun ls hl => ?_)
          refine lv_goto (tgt := 4) hx hb dX6_kindsOf_26 (by decide) ?_
          exact ih u_2 (v3_4 + (1 : Int32)) ls (lv_sub hl [2, 3, 1, 0] rfl) hr
        · have hr := ite_p hr c_3
          refine lv_iload_n hx hb dX6_kindsOf_21 rfl (lv_at hl 3 rfl) ?_
          exact hret 22 ls _ dX6_kindsOf_22 (Option.some.inj hr)
  refine hL4 p0 _ (fun  ls hl hr => ?_) 5000 (-1 : Int32) (0 : Int32) ls (lv_sub hl [2, 3, 1, 0] rfl) hr
  refine lv_iload_n hx hb dX6_kindsOf_29 rfl (lv_at hl 0 rfl) ?_
  refine lv_iconst (v := (1 : Int32)) hx hb dX6_kindsOf_30 (by decide) ?_
  refine lv_iadd hx hb dX6_kindsOf_31 ?_
  exact hret 32 ls _ dX6_kindsOf_32 (Option.some.inj hr)
/-! X6_usualOf -/
def rmX6_usualOf : Room := { frames := 4, cells := 0, slots := 0, locals := 94 }
set_option maxHeartbeats 4000000 in
set_option maxRecDepth 100000 in
theorem k_X6_usualOf (l : Launch) (dC : Nat → ClassId) (dI : Nat → Nat → Nat) (cI cJ : ClassId) (a_o : Nat) (a_o_triangle : Nat) (a_o_now : Nat) (a_o_kept : Nat) (a_o_trial : Nat) (a_o_reader : Nat) (a_o_tapes : Nat) (a_o_triangle_halves : Nat) (a_o_now_marks : Nat) (a_o_now_seen : Nat) (a_o_now_events : Nat) (a_o_now_book : Nat) (p0 : Int32) (o_hasImage : Int32) (o_triangle_halves : Nat → Int32) (o_now_p : Int32) (o_now_e : Int32) (o_now_modulus : Int32) (o_now_windowRow : Int32) (o_now_windowPlace : Int32) (r : Int32) (hr : f_X6_usualOf p0 o_triangle_halves o_now_modulus = some r) : Met l yX6_usualOf wsX6_usualOf rmX6_usualOf (va_Pc [.ref a_o, .int p0] (pE (dC, dI) cI cJ [(a_o, .inr (5, [.ref a_o_triangle, .ref a_o_now, .ref a_o_kept, .ref a_o_trial, .ref a_o_reader, .ref a_o_tapes, .int o_hasImage])), (a_o_triangle, .inr (4, [.ref a_o_triangle_halves])), (a_o_triangle_halves, .inl (cI, 4160, .inl o_triangle_halves)), (a_o_now, .inr (2, [.ref a_o_triangle, .ref a_o_now_marks, .ref a_o_now_seen, .ref a_o_now_events, .ref a_o_now_book, .int o_now_p, .int o_now_e, .int o_now_modulus, .int o_now_windowRow, .int o_now_windowPlace]))])) (rq (.int r)) 0 0 nofree := by
  refine ro_of_i (cc := cX6_usualOf) (maxL := 7) (by decide) rfl (Nat.le_of_ble_eq_true rfl) ?_
  intro p e s m args below meth c Q ls hx hb hml hown hts hE hP hret hl
  have hK := hE.1
  have hl : lv_has ls 7 [(0, .ref a_o), (1, .int p0)] := hl
  unfold f_X6_usualOf at hr
  have iX3 : ∀ w ∈ wsX30, w ∈ wsX6_usualOf := memr_ (big := wsX6_usualOf) wsX30 [35, 36, 37, 38, 39, 40, 41, 42, 43, 44] (by decide +kernel)
  have iX5 : ∀ w ∈ wsX50, w ∈ wsX6_usualOf := memr_ (big := wsX6_usualOf) wsX50 [45] (by decide +kernel)
  have iX6 : ∀ w ∈ wsX60, w ∈ wsX6_usualOf := memr_ (big := wsX6_usualOf) wsX60 [28, 29, 30, 31, 32, 33, 34] (by decide +kernel)
  refine lv_iconst (v := (-1 : Int32)) hx hb dX6_usualOf_0 (by decide) ?_
  refine lv_istore_n (lv' := [(2, .int (-1 : Int32)), (0, .ref a_o), (1, .int p0)]) hx hb dX6_usualOf_1 rfl hl (by decide) rfl (fun ls hl => ?_)
  refine lv_iconst (v := (0 : Int32)) hx hb dX6_usualOf_2 (by decide) ?_
  refine lv_istore_n (lv' := [(3, .int (0 : Int32)), (2, .int (-1 : Int32)), (0, .ref a_o), (1, .int p0)]) hx hb dX6_usualOf_3 rfl hl (by decide) rfl (fun ls hl => ?_)
  refine lv_iconst (v := (-1 : Int32)) hx hb dX6_usualOf_4 (by decide) ?_
  refine lv_istore (lv' := [(4, .int (-1 : Int32)), (3, .int (0 : Int32)), (2, .int (-1 : Int32)), (0, .ref a_o), (1, .int p0)]) hx hb dX6_usualOf_5 hl (by decide) rfl (fun ls hl => ?_)
  refine lv_iconst (v := (0 : Int32)) hx hb dX6_usualOf_7 (by decide) ?_
  refine lv_istore (lv' := [(5, .int (0 : Int32)), (4, .int (-1 : Int32)), (3, .int (0 : Int32)), (2, .int (-1 : Int32)), (0, .ref a_o), (1, .int p0)]) hx hb dX6_usualOf_8 hl (by decide) rfl (fun ls hl => ?_)
  have hL10 : ∀ (v1_10 : Int32) (k_10 : Int32 → Option (Int32)) (hk : ∀ (x2_10 : Int32) (ls : Array Slot), lv_has ls 7 [(2, .int x2_10)] → k_10 x2_10 = some r → W p l e rmX6_usualOf s m args below meth c s.heap [] 0 0 Q (F0 m 60 ls [])) (fuel : Nat) (v2_10 : Int32) (v3_10 : Int32) (v4_10 : Int32) (v5_10 : Int32) (ls : Array Slot), lv_has ls 7 [(0, .ref a_o), (1, .int v1_10), (2, .int v2_10), (3, .int v3_10), (4, .int v4_10), (5, .int v5_10)] → f_X6_usualOf_L10 k_10 v1_10 o_triangle_halves o_now_modulus fuel v2_10 v3_10 v4_10 v5_10 = some r → W p l e rmX6_usualOf s m args below meth c s.heap [] 0 0 Q (F0 m 10 ls []) := by
    intro v1_10 k_10 hk fuel
    induction fuel with
    | zero =>
      intro v2_10 v3_10 v4_10 v5_10 ls hl hr
      rw [f_X6_usualOf_L10_z] at hr
      cases hr
    | succ fuel ih =>
      intro v2_10 v3_10 v4_10 v5_10 ls hl hr
      rw [f_X6_usualOf_L10_s] at hr
      refine lv_iload hx hb dX6_usualOf_10 (lv_at hl 5 rfl) ?_
      refine lv_iload_n hx hb dX6_usualOf_12 rfl (lv_at hl 1 rfl) ?_
      refine lv_icmp_gt (tgt := 60) hx hb dX6_usualOf_13 (by decide) (fun c_1 => ?_) (fun c_1 => ?_)
      · have hr := ite_p hr c_1
        exact hk v2_10 ls (lv_sub hl [2] rfl) hr
      · have hr := ite_n hr c_1
        refine lv_aload_n hx hb dX6_usualOf_16 rfl (lv_at hl 0 rfl) ?_
        refine lv_iload_n hx hb dX6_usualOf_17 rfl (lv_at hl 1 rfl) ?_
        refine lv_iload hx hb dX6_usualOf_18 (lv_at hl 4 rfl) ?_
        obtain ⟨u_2, hu_2, hr⟩ := bd_e hr
        refine ro_V ⟨hx, hb, hml, hown, hts⟩ (k_X6_nextKind l dC dI cI cJ a_o a_o_triangle a_o_now a_o_kept a_o_trial a_o_reader a_o_tapes a_o_triangle_halves a_o_now_marks a_o_now_seen a_o_now_events a_o_now_book v1_10 v4_10 o_hasImage o_triangle_halves o_now_p o_now_e o_now_modulus o_now_windowRow o_now_windowPlace u_2 hu_2) (cwV 2 hts gX6_usualOf_X6_nextKind rfl rfl rfl (by decide +kernel) ⟨Nat.le_of_ble_eq_true rfl, Nat.le_of_ble_eq_true rfl⟩) hE hP 0 rfl rfl rfl (hP.sub [0, 1, 2, 3] rfl) rfl hl.1 rfl (Nat.le_of_ble_eq_true rfl) dX6_usualOf_20 ⟨Nat.zero_le _, Nat.zero_le _⟩ ?_
        refine lv_istore (lv' := [(4, .int u_2), (0, .ref a_o), (1, .int v1_10), (2, .int v2_10), (3, .int v3_10), (5, .int v5_10)]) hx hb dX6_usualOf_23 hl (by decide) rfl (fun ls hl => ?_)
        refine lv_iload hx hb dX6_usualOf_25 (lv_at hl 0 rfl) ?_
        refine lv_iconst (v := (-1 : Int32)) hx hb dX6_usualOf_27 (by decide) ?_
        refine lv_icmp_ne (tgt := 33) hx hb dX6_usualOf_28 (by decide) (fun c_3 => ?_) (fun c_3 => ?_)
        · have hr := ite_n hr c_3
          refine lv_aload_n hx hb dX6_usualOf_33 rfl (lv_at hl 1 rfl) ?_
          refine lv_iload_n hx hb dX6_usualOf_34 rfl (lv_at hl 2 rfl) ?_
          refine lv_iload hx hb dX6_usualOf_35 (lv_at hl 0 rfl) ?_
          obtain ⟨u_4, hu_4, hr⟩ := bd_e hr
          refine ro_V ⟨hx, hb, hml, hown, hts⟩ (k_X6_countOf l dC dI cI cJ a_o a_o_triangle a_o_now a_o_kept a_o_trial a_o_reader a_o_tapes a_o_triangle_halves a_o_now_marks a_o_now_seen a_o_now_events a_o_now_book v1_10 u_2 o_hasImage o_triangle_halves o_now_p o_now_e o_now_modulus o_now_windowRow o_now_windowPlace u_4 hu_4) (cwV 2 hts gX6_usualOf_X6_countOf rfl rfl rfl (by decide +kernel) ⟨Nat.le_of_ble_eq_true rfl, Nat.le_of_ble_eq_true rfl⟩) hE hP 0 rfl rfl rfl (hP.sub [0, 1, 2, 3] rfl) rfl hl.1 rfl (Nat.le_of_ble_eq_true rfl) dX6_usualOf_37 ⟨Nat.zero_le _, Nat.zero_le _⟩ ?_
          refine lv_istore (lv' := [(6, .int u_4), (4, .int u_2), (0, .ref a_o), (1, .int v1_10), (2, .int v2_10), (3, .int v3_10), (5, .int v5_10)]) hx hb dX6_usualOf_40 hl (by decide) rfl (fun ls hl => ?_)
          refine lv_iload hx hb dX6_usualOf_42 (lv_at hl 0 rfl) ?_
          refine lv_iload_n hx hb dX6_usualOf_44 rfl (lv_at hl 5 rfl) ?_
          have hJ_5 : ∀ (y_6 : Int32) (ey_6 : y_6 = (if (u_4 ≤ v3_10) then v2_10 else u_2)) (y_7 : Int32) (ey_7 : y_7 = (if (u_4 ≤ v3_10) then v3_10 else u_4)) (ls : Array Slot), lv_has ls 7 [(0, .ref a_o), (1, .int v1_10), (2, .int y_6), (3, .int y_7), (4, .int u_2), (5, .int v5_10)] → W p l e rmX6_usualOf s m args below meth c s.heap [] 0 0 Q (F0 m 54 ls []) := by
            intro y_6 ey_6 y_7 ey_7 ls hl
            subst ey_6
            subst ey_7
            refine lv_iinc (v := (v5_10 + (1 : Int32))) (lv' := [(5, .int (v5_10 + (1 : Int32))), (0, .ref a_o), (1, .int v1_10), (2, .int (if (u_4 ≤ v3_10) then v2_10 else u_2)), (3, .int (if (u_4 ≤ v3_10) then v3_10 else u_4)), (4, .int u_2)]) hx hb dX6_usualOf_54 hl (k := 5) rfl (congrArg (fun z => v5_10 + z) (by decide)) (by decide) rfl (fun ls hl => ?_)
            refine lv_goto (tgt := 10) hx hb dX6_usualOf_57 (by decide) ?_
            exact ih (if (u_4 ≤ v3_10) then v2_10 else u_2) (if (u_4 ≤ v3_10) then v3_10 else u_4) u_2 (v5_10 + (1 : Int32)) ls (lv_sub hl [1, 2, 3, 4, 5, 0] rfl) hr
          refine lv_icmp_le (tgt := 54) hx hb dX6_usualOf_45 (by decide) (fun c_8 => ?_) (fun c_8 => ?_)
          · exact hJ_5 _ (if_pos c_8).symm _ (if_pos c_8).symm ls (lv_sub hl [2, 3, 4, 5, 1, 6] rfl)
          · refine lv_iload hx hb dX6_usualOf_48 (lv_at hl 0 rfl) ?_
            refine lv_istore_n (lv' := [(3, .int u_4), (6, .int u_4), (4, .int u_2), (0, .ref a_o), (1, .int v1_10), (2, .int v2_10), (5, .int v5_10)]) hx hb dX6_usualOf_50 rfl hl (by decide) rfl (fun ls hl => ?_)
            refine lv_iload hx hb dX6_usualOf_51 (lv_at hl 2 rfl) ?_
            refine lv_istore_n (lv' := [(2, .int u_2), (3, .int u_4), (6, .int u_4), (4, .int u_2), (0, .ref a_o), (1, .int v1_10), (5, .int v5_10)]) hx hb dX6_usualOf_53 rfl hl (by decide) rfl (fun ls hl => ?_)
            exact hJ_5 _ (if_neg c_8).symm _ (if_neg c_8).symm ls (lv_sub hl [4, 5, 0, 1, 3, 6] rfl)
        · have hr := ite_p hr c_3
          refine lv_iload_n hx hb dX6_usualOf_31 rfl (lv_at hl 3 rfl) ?_
          exact hret 32 ls _ dX6_usualOf_32 (Option.some.inj hr)
  refine hL10 p0 _ (fun x2_10 ls hl hr => ?_) 5000 (-1 : Int32) (0 : Int32) (-1 : Int32) (0 : Int32) ls (lv_sub hl [4, 5, 3, 2, 1, 0] rfl) hr
  refine lv_iload_n hx hb dX6_usualOf_60 rfl (lv_at hl 0 rfl) ?_
  exact hret 61 ls _ dX6_usualOf_61 (Option.some.inj hr)
/-! X6_sumOf -/
def rmX6_sumOf : Room := { frames := 3, cells := 0, slots := 0, locals := 69 }
set_option maxHeartbeats 4000000 in
set_option maxRecDepth 100000 in
theorem k_X6_sumOf (l : Launch) (dC : Nat → ClassId) (dI : Nat → Nat → Nat) (cI cJ : ClassId) (a_o : Nat) (a_o_triangle : Nat) (a_o_now : Nat) (a_o_kept : Nat) (a_o_trial : Nat) (a_o_reader : Nat) (a_o_tapes : Nat) (a_o_triangle_halves : Nat) (a_o_now_marks : Nat) (a_o_now_seen : Nat) (a_o_now_events : Nat) (a_o_now_book : Nat) (p0 : Int32) (o_hasImage : Int32) (o_triangle_halves : Nat → Int32) (o_now_p : Int32) (o_now_e : Int32) (o_now_modulus : Int32) (o_now_windowRow : Int32) (o_now_windowPlace : Int32) (r : Int32) (hr : f_X6_sumOf p0 o_triangle_halves o_now_modulus = some r) : Met l yX6_sumOf wsX6_sumOf rmX6_sumOf (va_Pc [.ref a_o, .int p0] (pE (dC, dI) cI cJ [(a_o, .inr (5, [.ref a_o_triangle, .ref a_o_now, .ref a_o_kept, .ref a_o_trial, .ref a_o_reader, .ref a_o_tapes, .int o_hasImage])), (a_o_triangle, .inr (4, [.ref a_o_triangle_halves])), (a_o_triangle_halves, .inl (cI, 4160, .inl o_triangle_halves)), (a_o_now, .inr (2, [.ref a_o_triangle, .ref a_o_now_marks, .ref a_o_now_seen, .ref a_o_now_events, .ref a_o_now_book, .int o_now_p, .int o_now_e, .int o_now_modulus, .int o_now_windowRow, .int o_now_windowPlace]))])) (rq (.int r)) 0 0 nofree := by
  refine ro_of_i (cc := cX6_sumOf) (maxL := 4) (by decide) rfl (Nat.le_of_ble_eq_true rfl) ?_
  intro p e s m args below meth c Q ls hx hb hml hown hts hE hP hret hl
  have hK := hE.1
  have hl : lv_has ls 4 [(0, .ref a_o), (1, .int p0)] := hl
  unfold f_X6_sumOf at hr
  have iX3 : ∀ w ∈ wsX30, w ∈ wsX6_sumOf := memr_ (big := wsX6_sumOf) wsX30 [26, 27, 28, 29, 30, 31, 32, 33, 34, 35] (by decide +kernel)
  have iX5 : ∀ w ∈ wsX50, w ∈ wsX6_sumOf := memr_ (big := wsX6_sumOf) wsX50 [36] (by decide +kernel)
  have iX6 : ∀ w ∈ wsX60, w ∈ wsX6_sumOf := memr_ (big := wsX6_sumOf) wsX60 [19, 20, 21, 22, 23, 24, 25] (by decide +kernel)
  refine lv_iconst (v := (0 : Int32)) hx hb dX6_sumOf_0 (by decide) ?_
  refine lv_istore_n (lv' := [(2, .int (0 : Int32)), (0, .ref a_o), (1, .int p0)]) hx hb dX6_sumOf_1 rfl hl (by decide) rfl (fun ls hl => ?_)
  refine lv_iconst (v := (0 : Int32)) hx hb dX6_sumOf_2 (by decide) ?_
  refine lv_istore_n (lv' := [(3, .int (0 : Int32)), (2, .int (0 : Int32)), (0, .ref a_o), (1, .int p0)]) hx hb dX6_sumOf_3 rfl hl (by decide) rfl (fun ls hl => ?_)
  have hL4 : ∀ (v1_4 : Int32) (k_4 : Int32 → Option (Int32)) (hk : ∀ (x2_4 : Int32) (ls : Array Slot), lv_has ls 4 [(2, .int x2_4)] → k_4 x2_4 = some r → W p l e rmX6_sumOf s m args below meth c s.heap [] 0 0 Q (F0 m 27 ls [])) (fuel : Nat) (v2_4 : Int32) (v3_4 : Int32) (ls : Array Slot), lv_has ls 4 [(0, .ref a_o), (1, .int v1_4), (2, .int v2_4), (3, .int v3_4)] → f_X6_sumOf_L4 k_4 v1_4 o_triangle_halves o_now_modulus fuel v2_4 v3_4 = some r → W p l e rmX6_sumOf s m args below meth c s.heap [] 0 0 Q (F0 m 4 ls []) := by
    intro v1_4 k_4 hk fuel
    induction fuel with
    | zero =>
      intro v2_4 v3_4 ls hl hr
      rw [f_X6_sumOf_L4_z] at hr
      cases hr
    | succ fuel ih =>
      intro v2_4 v3_4 ls hl hr
      rw [f_X6_sumOf_L4_s] at hr
      refine lv_iload_n hx hb dX6_sumOf_4 rfl (lv_at hl 3 rfl) ?_
      refine lv_iload_n hx hb dX6_sumOf_5 rfl (lv_at hl 1 rfl) ?_
      refine lv_icmp_gt (tgt := 27) hx hb dX6_sumOf_6 (by decide) (fun c_1 => ?_) (fun c_1 => ?_)
      · have hr := ite_p hr c_1
        exact hk v2_4 ls (lv_sub hl [2] rfl) hr
      · have hr := ite_n hr c_1
        refine lv_iload_n hx hb dX6_sumOf_9 rfl (lv_at hl 2 rfl) ?_
        refine lv_aload_n hx hb dX6_sumOf_10 rfl (lv_at hl 0 rfl) ?_
        refine va_get (D := (dC, dI)) (ci := 5) (v := .ref a_o_now) (C := RX6) (T := TX6) (N := 7) hx hb hts iX6 hown hK hP 0 rfl rfl 1 (by decide) (hts (.fieldLink RX6 23 "PascalRows" "now" "LPascalRows$Setup;") (List.mem_of_getElem? (i := 1) rfl)) (fun _ h9 => h9) rfl dX6_sumOf_11 ?_
        refine lv_iload_n hx hb dX6_sumOf_14 rfl (lv_at hl 1 rfl) ?_
        refine lv_iload_n hx hb dX6_sumOf_15 rfl (lv_at hl 3 rfl) ?_
        obtain ⟨u_2, hu_2, hr⟩ := bd_e hr
        refine ro_V ⟨hx, hb, hml, hown, hts⟩ (k_X3_remainder l dC dI cI cJ a_o_now a_o_triangle a_o_now_marks a_o_now_seen a_o_now_events a_o_now_book a_o_triangle_halves v1_4 v3_4 o_now_p o_now_e o_now_modulus o_now_windowRow o_now_windowPlace o_triangle_halves u_2 hu_2) (cwV 2 hts gX6_sumOf_X3_remainder rfl rfl rfl (by decide +kernel) ⟨Nat.le_of_ble_eq_true rfl, Nat.le_of_ble_eq_true rfl⟩) hE hP 3 rfl rfl rfl (hP.sub [3, 1, 2] rfl) rfl hl.1 rfl (Nat.le_of_ble_eq_true rfl) dX6_sumOf_16 ⟨Nat.zero_le _, Nat.zero_le _⟩ ?_
        refine lv_iadd hx hb dX6_sumOf_19 ?_
        refine lv_istore_n (lv' := [(2, .int (v2_4 + u_2)), (0, .ref a_o), (1, .int v1_4), (3, .int v3_4)]) hx hb dX6_sumOf_20 rfl hl (by decide) rfl (fun ls hl => ?_)
        refine lv_iinc (v := (v3_4 + (1 : Int32))) (lv' := [(3, .int (v3_4 + (1 : Int32))), (2, .int (v2_4 + u_2)), (0, .ref a_o), (1, .int v1_4)]) hx hb dX6_sumOf_21 hl (k := 3) rfl (congrArg (fun z => v3_4 + z) (by decide)) (by decide) rfl (fun ls hl => ?_)
        refine lv_goto (tgt := 4) hx hb dX6_sumOf_24 (by decide) ?_
        exact ih (v2_4 + u_2) (v3_4 + (1 : Int32)) ls (lv_sub hl [2, 3, 1, 0] rfl) hr
  refine hL4 p0 _ (fun x2_4 ls hl hr => ?_) 5000 (0 : Int32) (0 : Int32) ls (lv_sub hl [2, 3, 1, 0] rfl) hr
  refine lv_iload_n hx hb dX6_sumOf_27 rfl (lv_at hl 0 rfl) ?_
  exact hret 28 ls _ dX6_sumOf_28 (Option.some.inj hr)
/-! X6_depthOf -/
def rmX6_depthOf : Room := { frames := 1, cells := 0, slots := 0, locals := 27 }
set_option maxHeartbeats 4000000 in
set_option maxRecDepth 100000 in
theorem k_X6_depthOf (l : Launch) (dC : Nat → ClassId) (dI : Nat → Nat → Nat) (cI cJ : ClassId) (a_o : Nat) (a_o_triangle : Nat) (a_o_now : Nat) (a_o_kept : Nat) (a_o_trial : Nat) (a_o_reader : Nat) (a_o_tapes : Nat) (a_o_now_marks : Nat) (a_o_now_seen : Nat) (a_o_now_events : Nat) (a_o_now_book : Nat) (p0 : Int32) (o_hasImage : Int32) (o_now_p : Int32) (o_now_e : Int32) (o_now_modulus : Int32) (o_now_windowRow : Int32) (o_now_windowPlace : Int32) (r : Int32) (hr : f_X6_depthOf p0 o_now_p = some r) : Met l yX6_depthOf wsX6_depthOf rmX6_depthOf (va_Pc [.ref a_o, .int p0] (pE (dC, dI) cI cJ [(a_o, .inr (5, [.ref a_o_triangle, .ref a_o_now, .ref a_o_kept, .ref a_o_trial, .ref a_o_reader, .ref a_o_tapes, .int o_hasImage])), (a_o_now, .inr (2, [.ref a_o_triangle, .ref a_o_now_marks, .ref a_o_now_seen, .ref a_o_now_events, .ref a_o_now_book, .int o_now_p, .int o_now_e, .int o_now_modulus, .int o_now_windowRow, .int o_now_windowPlace]))])) (rq (.int r)) 0 0 nofree := by
  refine ro_of_i (cc := cX6_depthOf) (maxL := 4) (by decide) rfl (Nat.le_of_ble_eq_true rfl) ?_
  intro p e s m args below meth c Q ls hx hb hml hown hts hE hP hret hl
  have hK := hE.1
  have hl : lv_has ls 4 [(0, .ref a_o), (1, .int p0)] := hl
  unfold f_X6_depthOf at hr
  have iX3 : ∀ w ∈ wsX30, w ∈ wsX6_depthOf := memr_ (big := wsX6_depthOf) wsX30 [17, 18, 19, 20, 21, 22, 23, 24, 25, 26] (by decide +kernel)
  have iX6 : ∀ w ∈ wsX60, w ∈ wsX6_depthOf := memr_ (big := wsX6_depthOf) wsX60 [10, 11, 12, 13, 14, 15, 16] (by decide +kernel)
  refine lv_iconst (v := (0 : Int32)) hx hb dX6_depthOf_0 (by decide) ?_
  refine lv_istore_n (lv' := [(2, .int (0 : Int32)), (0, .ref a_o), (1, .int p0)]) hx hb dX6_depthOf_1 rfl hl (by decide) rfl (fun ls hl => ?_)
  refine lv_iconst (v := (0 : Int32)) hx hb dX6_depthOf_2 (by decide) ?_
  refine lv_istore_n (lv' := [(3, .int (0 : Int32)), (2, .int (0 : Int32)), (0, .ref a_o), (1, .int p0)]) hx hb dX6_depthOf_3 rfl hl (by decide) rfl (fun ls hl => ?_)
  have hL4 : ∀ (v1_4 : Int32) (k_4 : Int32 → Option (Int32)) (hk : ∀ (x2_4 : Int32) (ls : Array Slot), lv_has ls 4 [(2, .int x2_4)] → k_4 x2_4 = some r → W p l e rmX6_depthOf s m args below meth c s.heap [] 0 0 Q (F0 m 32 ls [])) (fuel : Nat) (v2_4 : Int32) (v3_4 : Int32) (ls : Array Slot), lv_has ls 4 [(0, .ref a_o), (1, .int v1_4), (2, .int v2_4), (3, .int v3_4)] → f_X6_depthOf_L4 k_4 v1_4 o_now_p fuel v2_4 v3_4 = some r → W p l e rmX6_depthOf s m args below meth c s.heap [] 0 0 Q (F0 m 4 ls []) := by
    intro v1_4 k_4 hk fuel
    induction fuel with
    | zero =>
      intro v2_4 v3_4 ls hl hr
      rw [f_X6_depthOf_L4_z] at hr
      cases hr
    | succ fuel ih =>
      intro v2_4 v3_4 ls hl hr
      rw [f_X6_depthOf_L4_s] at hr
      refine lv_iload_n hx hb dX6_depthOf_4 rfl (lv_at hl 3 rfl) ?_
      refine lv_iload_n hx hb dX6_depthOf_5 rfl (lv_at hl 1 rfl) ?_
      refine lv_icmp_gt (tgt := 32) hx hb dX6_depthOf_6 (by decide) (fun c_1 => ?_) (fun c_1 => ?_)
      · have hr := ite_p hr c_1
        exact hk v2_4 ls (lv_sub hl [2] rfl) hr
      · have hr := ite_n hr c_1
        refine lv_iload_n hx hb dX6_depthOf_9 rfl (lv_at hl 2 rfl) ?_
        refine lv_aload_n hx hb dX6_depthOf_10 rfl (lv_at hl 0 rfl) ?_
        refine va_get (D := (dC, dI)) (ci := 5) (v := .ref a_o_now) (C := RX6) (T := TX6) (N := 7) hx hb hts iX6 hown hK hP 0 rfl rfl 1 (by decide) (hts (.fieldLink RX6 23 "PascalRows" "now" "LPascalRows$Setup;") (List.mem_of_getElem? (i := 1) rfl)) (fun _ h9 => h9) rfl dX6_depthOf_11 ?_
        refine va_getN (host := "PascalRows") (D := (dC, dI)) (ci := 2) (v := .int o_now_p) (C := RX3) (T := TX3) (N := 10) hx hb hts iX3 hown hK hP 1 rfl rfl 5 (by decide) (hE.nest 5 rfl rfl) (fun _ h9 => h9) rfl dX6_depthOf_14 ?_
        refine lv_iload_n hx hb dX6_depthOf_17 rfl (lv_at hl 1 rfl) ?_
        refine lv_iload_n hx hb dX6_depthOf_18 rfl (lv_at hl 3 rfl) ?_
        obtain ⟨u_2, hu_2, hr⟩ := bd_e hr
        refine ro_S ⟨hx, hb, hml, hown, hts⟩ (k_X0_carries l dC dI cI cJ o_now_p v1_4 v3_4 u_2 hu_2) (va_cwS 3 hts gX6_depthOf_X0_carries rfl rfl rfl (by decide +kernel) ⟨Nat.le_of_ble_eq_true rfl, Nat.le_of_ble_eq_true rfl⟩) hE (hP.sub [] rfl) rfl hl.1 rfl (Nat.le_of_ble_eq_true rfl) dX6_depthOf_19 ⟨Nat.zero_le _, Nat.zero_le _⟩ ?_
        refine va_mmax hx hb (hml.trans hl.1.symm) hown (hts (.methodLink RX6 186 Lib.Math.max.name) (List.mem_of_getElem? (i := 2) rfl)) (hts (.static Lib.Math.max.name) (List.mem_of_getElem? (i := 3) rfl)) (hts (.initialized "java/lang/Math") (List.mem_of_getElem? (i := 4) rfl)) (hts (.code Lib.Math.max.name Lib.Math.max.code 2 (some .int)) (List.mem_of_getElem? (i := 5) rfl)) (Nat.le_of_ble_eq_true rfl) (Nat.le_of_ble_eq_true rfl) (Nat.zero_le _) (Nat.zero_le _) dX6_depthOf_22 ?_
        refine lv_istore_n (lv' := [(2, .int (if v2_4 < u_2 then u_2 else v2_4)), (0, .ref a_o), (1, .int v1_4), (3, .int v3_4)]) hx hb dX6_depthOf_25 rfl hl (by decide) rfl (fun ls hl => ?_)
        refine lv_iinc (v := (v3_4 + (1 : Int32))) (lv' := [(3, .int (v3_4 + (1 : Int32))), (2, .int (if v2_4 < u_2 then u_2 else v2_4)), (0, .ref a_o), (1, .int v1_4)]) hx hb dX6_depthOf_26 hl (k := 3) rfl (congrArg (fun z => v3_4 + z) (by decide)) (by decide) rfl (fun ls hl => ?_)
        refine lv_goto (tgt := 4) hx hb dX6_depthOf_29 (by decide) ?_
        exact ih (if v2_4 < u_2 then u_2 else v2_4) (v3_4 + (1 : Int32)) ls (lv_sub hl [2, 3, 1, 0] rfl) hr
  refine hL4 p0 _ (fun x2_4 ls hl hr => ?_) 5000 (0 : Int32) (0 : Int32) ls (lv_sub hl [2, 3, 1, 0] rfl) hr
  refine lv_iload_n hx hb dX6_depthOf_32 rfl (lv_at hl 0 rfl) ?_
  exact hret 33 ls _ dX6_depthOf_33 (Option.some.inj hr)
/-! X6_row -/
def rmX6_row : Room := { frames := 5, cells := 0, slots := 0, locals := 120 }
set_option maxHeartbeats 4000000 in
set_option maxRecDepth 100000 in
theorem k_X6_row (l : Launch) (dC : Nat → ClassId) (dI : Nat → Nat → Nat) (cI cJ : ClassId) (a_o : Nat) (a_o_triangle : Nat) (a_o_now : Nat) (a_o_kept : Nat) (a_o_trial : Nat) (a_o_reader : Nat) (a_o_tapes : Nat) (a_o_triangle_halves : Nat) (a_o_now_marks : Nat) (a_o_now_seen : Nat) (a_o_now_events : Nat) (a_o_now_book : Nat) (p0 : Int32) (p1 : Int32) (o_hasImage : Int32) (o_triangle_halves : Nat → Int32) (o_now_p : Int32) (o_now_e : Int32) (o_now_modulus : Int32) (o_now_windowRow : Int32) (o_now_windowPlace : Int32) (r : Int32) (hr : f_X6_row p0 p1 o_triangle_halves o_now_p o_now_modulus = some r) : Met l yX6_row wsX6_row rmX6_row (va_Pc [.ref a_o, .int p0, .int p1] (pE (dC, dI) cI cJ [(a_o, .inr (5, [.ref a_o_triangle, .ref a_o_now, .ref a_o_kept, .ref a_o_trial, .ref a_o_reader, .ref a_o_tapes, .int o_hasImage])), (a_o_triangle, .inr (4, [.ref a_o_triangle_halves])), (a_o_triangle_halves, .inl (cI, 4160, .inl o_triangle_halves)), (a_o_now, .inr (2, [.ref a_o_triangle, .ref a_o_now_marks, .ref a_o_now_seen, .ref a_o_now_events, .ref a_o_now_book, .int o_now_p, .int o_now_e, .int o_now_modulus, .int o_now_windowRow, .int o_now_windowPlace]))])) (rq (.int r)) 0 0 nofree := by
  refine ro_of_i (cc := cX6_row) (maxL := 3) (by decide) rfl (Nat.le_of_ble_eq_true rfl) ?_
  intro p e s m args below meth c Q ls hx hb hml hown hts hE hP hret hl
  have hK := hE.1
  have hl : lv_has ls 3 [(0, .ref a_o), (1, .int p0), (2, .int p1)] := hl
  unfold f_X6_row at hr
  have iX3 : ∀ w ∈ wsX30, w ∈ wsX6_row := memr_ (big := wsX6_row) wsX30 [65, 66, 67, 68, 69, 70, 71, 72, 73, 74] (by decide +kernel)
  have iX5 : ∀ w ∈ wsX50, w ∈ wsX6_row := memr_ (big := wsX6_row) wsX50 [75] (by decide +kernel)
  have iX6 : ∀ w ∈ wsX60, w ∈ wsX6_row := memr_ (big := wsX6_row) wsX60 [58, 59, 60, 61, 62, 63, 64] (by decide +kernel)
  refine lv_iload_n hx hb dX6_row_0 rfl (lv_at hl 1 rfl) ?_
  refine ro_S ⟨hx, hb, hml, hown, hts⟩ (k_X6_isRow l dC dI cI cJ p0) (va_cwS 1 hts gX6_row_X6_isRow rfl rfl rfl (by decide +kernel) ⟨Nat.le_of_ble_eq_true rfl, Nat.le_of_ble_eq_true rfl⟩) hE (hP.sub [] rfl) rfl hl.1 rfl (Nat.le_of_ble_eq_true rfl) dX6_row_1 ⟨Nat.zero_le _, Nat.zero_le _⟩ ?_
  refine lv_if_ne (tgt := 9) hx hb dX6_row_4 (by decide) (fun c_1 => ?_) (fun c_1 => ?_)
  · have hr := ite_n hr c_1
    refine lv_iload_n hx hb dX6_row_9 rfl (lv_at hl 2 rfl) ?_
    by_cases c_2 : p1 = (0 : Int32)
    · have hr := ite_p hr c_2
      refine W.eq (g2 := F0 m 10 ls (.int (0 : Int32) :: [])) (congrArg (fun z => F0 m 10 ls (.int z :: [])) c_2) ?_
      refine lv_tableIn (tgt := 40) hx hb dX6_row_10 (by decide) (by decide) (by first | rfl | decide) (by decide) ?_
      refine lv_aload_n hx hb dX6_row_40 rfl (lv_at hl 0 rfl) ?_
      refine lv_iload_n hx hb dX6_row_41 rfl (lv_at hl 1 rfl) ?_
      obtain ⟨u_3, hu_3, hr⟩ := bd_e hr
      refine ro_V ⟨hx, hb, hml, hown, hts⟩ (k_X6_kindsOf l dC dI cI cJ a_o a_o_triangle a_o_now a_o_kept a_o_trial a_o_reader a_o_tapes a_o_triangle_halves a_o_now_marks a_o_now_seen a_o_now_events a_o_now_book p0 o_hasImage o_triangle_halves o_now_p o_now_e o_now_modulus o_now_windowRow o_now_windowPlace u_3 hu_3) (cwV 1 hts gX6_row_X6_kindsOf rfl rfl rfl (by decide +kernel) ⟨Nat.le_of_ble_eq_true rfl, Nat.le_of_ble_eq_true rfl⟩) hE hP 0 rfl rfl rfl (hP.sub [0, 1, 2, 3] rfl) rfl hl.1 rfl (Nat.le_of_ble_eq_true rfl) dX6_row_42 ⟨Nat.zero_le _, Nat.zero_le _⟩ ?_
      exact hret 45 ls _ dX6_row_45 (Option.some.inj hr)
    have hr := ite_n hr c_2
    by_cases c_4 : p1 = (1 : Int32)
    · have hr := ite_p hr c_4
      refine W.eq (g2 := F0 m 10 ls (.int (1 : Int32) :: [])) (congrArg (fun z => F0 m 10 ls (.int z :: [])) c_4) ?_
      refine lv_tableIn (tgt := 46) hx hb dX6_row_10 (by decide) (by decide) (by first | rfl | decide) (by decide) ?_
      refine lv_aload_n hx hb dX6_row_46 rfl (lv_at hl 0 rfl) ?_
      refine lv_iload_n hx hb dX6_row_47 rfl (lv_at hl 1 rfl) ?_
      obtain ⟨u_5, hu_5, hr⟩ := bd_e hr
      refine ro_V ⟨hx, hb, hml, hown, hts⟩ (k_X6_usualOf l dC dI cI cJ a_o a_o_triangle a_o_now a_o_kept a_o_trial a_o_reader a_o_tapes a_o_triangle_halves a_o_now_marks a_o_now_seen a_o_now_events a_o_now_book p0 o_hasImage o_triangle_halves o_now_p o_now_e o_now_modulus o_now_windowRow o_now_windowPlace u_5 hu_5) (cwV 1 hts gX6_row_X6_usualOf rfl rfl rfl (by decide +kernel) ⟨Nat.le_of_ble_eq_true rfl, Nat.le_of_ble_eq_true rfl⟩) hE hP 0 rfl rfl rfl (hP.sub [0, 1, 2, 3] rfl) rfl hl.1 rfl (Nat.le_of_ble_eq_true rfl) dX6_row_48 ⟨Nat.zero_le _, Nat.zero_le _⟩ ?_
      exact hret 51 ls _ dX6_row_51 (Option.some.inj hr)
    have hr := ite_n hr c_4
    by_cases c_6 : p1 = (2 : Int32)
    · have hr := ite_p hr c_6
      refine W.eq (g2 := F0 m 10 ls (.int (2 : Int32) :: [])) (congrArg (fun z => F0 m 10 ls (.int z :: [])) c_6) ?_
      refine lv_tableIn (tgt := 52) hx hb dX6_row_10 (by decide) (by decide) (by first | rfl | decide) (by decide) ?_
      refine lv_aload_n hx hb dX6_row_52 rfl (lv_at hl 0 rfl) ?_
      refine lv_iload_n hx hb dX6_row_53 rfl (lv_at hl 1 rfl) ?_
      obtain ⟨u_7, hu_7, hr⟩ := bd_e hr
      refine ro_V ⟨hx, hb, hml, hown, hts⟩ (k_X6_sumOf l dC dI cI cJ a_o a_o_triangle a_o_now a_o_kept a_o_trial a_o_reader a_o_tapes a_o_triangle_halves a_o_now_marks a_o_now_seen a_o_now_events a_o_now_book p0 o_hasImage o_triangle_halves o_now_p o_now_e o_now_modulus o_now_windowRow o_now_windowPlace u_7 hu_7) (cwV 1 hts gX6_row_X6_sumOf rfl rfl rfl (by decide +kernel) ⟨Nat.le_of_ble_eq_true rfl, Nat.le_of_ble_eq_true rfl⟩) hE hP 0 rfl rfl rfl (hP.sub [0, 1, 2, 3] rfl) rfl hl.1 rfl (Nat.le_of_ble_eq_true rfl) dX6_row_54 ⟨Nat.zero_le _, Nat.zero_le _⟩ ?_
      exact hret 57 ls _ dX6_row_57 (Option.some.inj hr)
    have hr := ite_n hr c_6
    by_cases c_8 : p1 = (3 : Int32)
    · have hr := ite_p hr c_8
      refine W.eq (g2 := F0 m 10 ls (.int (3 : Int32) :: [])) (congrArg (fun z => F0 m 10 ls (.int z :: [])) c_8) ?_
      refine lv_tableIn (tgt := 58) hx hb dX6_row_10 (by decide) (by decide) (by first | rfl | decide) (by decide) ?_
      refine lv_aload_n hx hb dX6_row_58 rfl (lv_at hl 0 rfl) ?_
      refine lv_iload_n hx hb dX6_row_59 rfl (lv_at hl 1 rfl) ?_
      obtain ⟨u_9, hu_9, hr⟩ := bd_e hr
      refine ro_V ⟨hx, hb, hml, hown, hts⟩ (k_X6_depthOf l dC dI cI cJ a_o a_o_triangle a_o_now a_o_kept a_o_trial a_o_reader a_o_tapes a_o_now_marks a_o_now_seen a_o_now_events a_o_now_book p0 o_hasImage o_now_p o_now_e o_now_modulus o_now_windowRow o_now_windowPlace u_9 hu_9) (cwV 1 hts gX6_row_X6_depthOf rfl rfl rfl (by decide +kernel) ⟨Nat.le_of_ble_eq_true rfl, Nat.le_of_ble_eq_true rfl⟩) hE hP 0 rfl rfl rfl (hP.sub [0, 3] rfl) rfl hl.1 rfl (Nat.le_of_ble_eq_true rfl) dX6_row_60 ⟨Nat.zero_le _, Nat.zero_le _⟩ ?_
      exact hret 63 ls _ dX6_row_63 (Option.some.inj hr)
    have hr := ite_n hr c_8
    refine lv_tableOut (tgt := 64) hx hb dX6_row_10 (tbl_out (fun k h1 h2 => ?_)) (by decide) ?_
    · rcases (show k = 0 ∨ k = 1 ∨ k = 2 ∨ k = 3 by omega) with rfl | rfl | rfl | rfl
      · exact i32_ne c_2 rfl
      · exact i32_ne c_4 rfl
      · exact i32_ne c_6 rfl
      · exact i32_ne c_8 rfl
    refine lv_iconst (v := (-1 : Int32)) hx hb dX6_row_64 (by decide) ?_
    exact hret 65 ls _ dX6_row_65 (Option.some.inj hr)
  · have hr := ite_p hr c_1
    refine lv_iconst (v := (-1 : Int32)) hx hb dX6_row_7 (by decide) ?_
    exact hret 8 ls _ dX6_row_8 (Option.some.inj hr)
/-! X6_kind -/
def rmX6_kind : Room := { frames := 4, cells := 0, slots := 0, locals := 94 }
set_option maxHeartbeats 4000000 in
set_option maxRecDepth 100000 in
theorem k_X6_kind (l : Launch) (dC : Nat → ClassId) (dI : Nat → Nat → Nat) (cI cJ : ClassId) (a_o : Nat) (a_o_triangle : Nat) (a_o_now : Nat) (a_o_kept : Nat) (a_o_trial : Nat) (a_o_reader : Nat) (a_o_tapes : Nat) (a_o_triangle_halves : Nat) (a_o_now_marks : Nat) (a_o_now_seen : Nat) (a_o_now_events : Nat) (a_o_now_book : Nat) (p0 : Int32) (p1 : Int32) (o_hasImage : Int32) (o_triangle_halves : Nat → Int32) (o_now_p : Int32) (o_now_e : Int32) (o_now_modulus : Int32) (o_now_windowRow : Int32) (o_now_windowPlace : Int32) (r : Int32) (hr : f_X6_kind p0 p1 o_triangle_halves o_now_modulus = some r) : Met l yX6_kind wsX6_kind rmX6_kind (va_Pc [.ref a_o, .int p0, .int p1] (pE (dC, dI) cI cJ [(a_o, .inr (5, [.ref a_o_triangle, .ref a_o_now, .ref a_o_kept, .ref a_o_trial, .ref a_o_reader, .ref a_o_tapes, .int o_hasImage])), (a_o_triangle, .inr (4, [.ref a_o_triangle_halves])), (a_o_triangle_halves, .inl (cI, 4160, .inl o_triangle_halves)), (a_o_now, .inr (2, [.ref a_o_triangle, .ref a_o_now_marks, .ref a_o_now_seen, .ref a_o_now_events, .ref a_o_now_book, .int o_now_p, .int o_now_e, .int o_now_modulus, .int o_now_windowRow, .int o_now_windowPlace]))])) (rq (.int r)) 0 0 nofree := by
  refine ro_of_i (cc := cX6_kind) (maxL := 5) (by decide) rfl (Nat.le_of_ble_eq_true rfl) ?_
  intro p e s m args below meth c Q ls hx hb hml hown hts hE hP hret hl
  have hK := hE.1
  have hl : lv_has ls 5 [(0, .ref a_o), (1, .int p0), (2, .int p1)] := hl
  unfold f_X6_kind at hr
  have iX3 : ∀ w ∈ wsX30, w ∈ wsX6_kind := memr_ (big := wsX6_kind) wsX30 [37, 38, 39, 40, 41, 42, 43, 44, 45, 46] (by decide +kernel)
  have iX5 : ∀ w ∈ wsX50, w ∈ wsX6_kind := memr_ (big := wsX6_kind) wsX50 [47] (by decide +kernel)
  have iX6 : ∀ w ∈ wsX60, w ∈ wsX6_kind := memr_ (big := wsX6_kind) wsX60 [30, 31, 32, 33, 34, 35, 36] (by decide +kernel)
  refine lv_iload_n hx hb dX6_kind_0 rfl (lv_at hl 1 rfl) ?_
  refine ro_S ⟨hx, hb, hml, hown, hts⟩ (k_X6_isRow l dC dI cI cJ p0) (va_cwS 1 hts gX6_kind_X6_isRow rfl rfl rfl (by decide +kernel) ⟨Nat.le_of_ble_eq_true rfl, Nat.le_of_ble_eq_true rfl⟩) hE (hP.sub [] rfl) rfl hl.1 rfl (Nat.le_of_ble_eq_true rfl) dX6_kind_1 ⟨Nat.zero_le _, Nat.zero_le _⟩ ?_
  have tT_2 : (((f_X6_isRow p0) = 0) ∨ (¬ (0 ≤ p1))) → W p l e rmX6_kind s m args below meth c s.heap [] 0 0 Q (F0 m 11 ls []) := by
    intro hc_1
    have hr := ite_p hr hc_1
    refine lv_iconst (v := (-1 : Int32)) hx hb dX6_kind_11 (by decide) ?_
    exact hret 12 ls _ dX6_kind_12 (Option.some.inj hr)
  have tF_3 : ¬ (((f_X6_isRow p0) = 0) ∨ (¬ (0 ≤ p1))) → W p l e rmX6_kind s m args below meth c s.heap [] 0 0 Q (F0 m 13 ls []) := by
    intro hc_1
    have hr := ite_n hr hc_1
    refine lv_iconst (v := (-1 : Int32)) hx hb dX6_kind_13 (by decide) ?_
    refine lv_istore_n (lv' := [(3, .int (-1 : Int32)), (0, .ref a_o), (1, .int p0), (2, .int p1)]) hx hb dX6_kind_14 rfl hl (by decide) rfl (fun ls hl => ?_)
    refine lv_iconst (v := (0 : Int32)) hx hb dX6_kind_15 (by decide) ?_
    refine lv_istore (lv' := [(4, .int (0 : Int32)), (3, .int (-1 : Int32)), (0, .ref a_o), (1, .int p0), (2, .int p1)]) hx hb dX6_kind_16 hl (by decide) rfl (fun ls hl => ?_)
    have hL18 : ∀ (v1_18 : Int32) (v2_18 : Int32) (k_18 : Int32 → Option (Int32)) (hk : ∀ (x3_18 : Int32) (ls : Array Slot), lv_has ls 5 [(3, .int x3_18)] → k_18 x3_18 = some r → W p l e rmX6_kind s m args below meth c s.heap [] 0 0 Q (F0 m 53 ls [])) (fuel : Nat) (v3_18 : Int32) (v4_18 : Int32) (ls : Array Slot), lv_has ls 5 [(0, .ref a_o), (1, .int v1_18), (2, .int v2_18), (3, .int v3_18), (4, .int v4_18)] → f_X6_kind_L18 k_18 v1_18 v2_18 o_triangle_halves o_now_modulus fuel v3_18 v4_18 = some r → W p l e rmX6_kind s m args below meth c s.heap [] 0 0 Q (F0 m 18 ls []) := by
      intro v1_18 v2_18 k_18 hk fuel
      induction fuel with
      | zero =>
        intro v3_18 v4_18 ls hl hr
        rw [f_X6_kind_L18_z] at hr
        cases hr
      | succ fuel ih =>
        intro v3_18 v4_18 ls hl hr
        rw [f_X6_kind_L18_s] at hr
        refine lv_iload hx hb dX6_kind_18 (lv_at hl 4 rfl) ?_
        refine lv_iload_n hx hb dX6_kind_20 rfl (lv_at hl 2 rfl) ?_
        have tT_5 : ((¬ (v2_18 < v4_18)) ∧ (¬ ((v1_18 + (1 : Int32)) < v4_18))) → W p l e rmX6_kind s m args below meth c s.heap [] 0 0 Q (F0 m 32 ls []) := by
          intro hc_4
          have hr := ite_p hr hc_4
          refine lv_aload_n hx hb dX6_kind_32 rfl (lv_at hl 0 rfl) ?_
          refine lv_iload_n hx hb dX6_kind_33 rfl (lv_at hl 1 rfl) ?_
          refine lv_iload_n hx hb dX6_kind_34 rfl (lv_at hl 3 rfl) ?_
          obtain ⟨u_6, hu_6, hr⟩ := bd_e hr
          refine ro_V ⟨hx, hb, hml, hown, hts⟩ (k_X6_nextKind l dC dI cI cJ a_o a_o_triangle a_o_now a_o_kept a_o_trial a_o_reader a_o_tapes a_o_triangle_halves a_o_now_marks a_o_now_seen a_o_now_events a_o_now_book v1_18 v3_18 o_hasImage o_triangle_halves o_now_p o_now_e o_now_modulus o_now_windowRow o_now_windowPlace u_6 hu_6) (cwV 2 hts gX6_kind_X6_nextKind rfl rfl rfl (by decide +kernel) ⟨Nat.le_of_ble_eq_true rfl, Nat.le_of_ble_eq_true rfl⟩) hE hP 0 rfl rfl rfl (hP.sub [0, 1, 2, 3] rfl) rfl hl.1 rfl (Nat.le_of_ble_eq_true rfl) dX6_kind_35 ⟨Nat.zero_le _, Nat.zero_le _⟩ ?_
          refine lv_istore_n (lv' := [(3, .int u_6), (0, .ref a_o), (1, .int v1_18), (2, .int v2_18), (4, .int v4_18)]) hx hb dX6_kind_38 rfl hl (by decide) rfl (fun ls hl => ?_)
          refine lv_iload_n hx hb dX6_kind_39 rfl (lv_at hl 0 rfl) ?_
          refine lv_iconst (v := (-1 : Int32)) hx hb dX6_kind_40 (by decide) ?_
          refine lv_icmp_ne (tgt := 47) hx hb dX6_kind_41 (by decide) (fun c_7 => ?_) (fun c_7 => ?_)
          · have hr := ite_n hr c_7
            refine lv_iinc (v := (v4_18 + (1 : Int32))) (lv' := [(4, .int (v4_18 + (1 : Int32))), (3, .int u_6), (0, .ref a_o), (1, .int v1_18), (2, .int v2_18)]) hx hb dX6_kind_47 hl (k := 4) rfl (congrArg (fun z => v4_18 + z) (by decide)) (by decide) rfl (fun ls hl => ?_)
            refine lv_goto (tgt := 18) hx hb dX6_kind_50 (by decide) ?_
            exact ih u_6 (v4_18 + (1 : Int32)) ls (lv_sub hl [2, 3, 4, 1, 0] rfl) hr
          · have hr := ite_p hr c_7
            refine lv_bipush (v := (-5 : Int32)) hx hb dX6_kind_44 (by decide) ?_
            exact hret 46 ls _ dX6_kind_46 (Option.some.inj hr)
        have tF_8 : ¬ ((¬ (v2_18 < v4_18)) ∧ (¬ ((v1_18 + (1 : Int32)) < v4_18))) → W p l e rmX6_kind s m args below meth c s.heap [] 0 0 Q (F0 m 53 ls []) := by
          intro hc_4
          have hr := ite_n hr hc_4
          exact hk v3_18 ls (lv_sub hl [3] rfl) hr
        refine lv_icmp_gt (tgt := 53) hx hb dX6_kind_21 (by decide) (fun c_9 => ?_) (fun c_9 => ?_)
        · exact tF_8 (fun h => (fun h => h c_9) h.1)
        · refine lv_iload hx hb dX6_kind_24 (lv_at hl 4 rfl) ?_
          refine lv_iload_n hx hb dX6_kind_26 rfl (lv_at hl 1 rfl) ?_
          refine lv_iconst (v := (1 : Int32)) hx hb dX6_kind_27 (by decide) ?_
          refine lv_iadd hx hb dX6_kind_28 ?_
          refine lv_icmp_gt (tgt := 53) hx hb dX6_kind_29 (by decide) (fun c_10 => ?_) (fun c_10 => ?_)
          · exact tF_8 (fun h => (fun h => h c_10) h.2)
          · exact tT_5 ⟨c_9, c_10⟩
    refine hL18 p0 p1 _ (fun x3_18 ls hl hr => ?_) 5000 (-1 : Int32) (0 : Int32) ls (lv_sub hl [2, 3, 4, 1, 0] rfl) hr
    refine lv_iload_n hx hb dX6_kind_53 rfl (lv_at hl 0 rfl) ?_
    exact hret 54 ls _ dX6_kind_54 (Option.some.inj hr)
  refine lv_if_eq (tgt := 11) hx hb dX6_kind_4 (by decide) (fun c_11 => ?_) (fun c_11 => ?_)
  · exact tT_2 (Or.inl c_11)
  · refine lv_iload_n hx hb dX6_kind_7 rfl (lv_at hl 2 rfl) ?_
    refine lv_if_ge (tgt := 13) hx hb dX6_kind_8 (by decide) (fun c_12 => ?_) (fun c_12 => ?_)
    · exact tF_3 (fun h => h.elim c_11 (fun h => h c_12))
    · exact tT_2 (Or.inr c_12)
/-! X6_fullRows -/
def rmX6_fullRows : Room := { frames := 4, cells := 0, slots := 0, locals := 93 }
set_option maxHeartbeats 4000000 in
set_option maxRecDepth 100000 in
theorem k_X6_fullRows (l : Launch) (dC : Nat → ClassId) (dI : Nat → Nat → Nat) (cI cJ : ClassId) (a_o : Nat) (a_o_triangle : Nat) (a_o_now : Nat) (a_o_kept : Nat) (a_o_trial : Nat) (a_o_reader : Nat) (a_o_tapes : Nat) (a_o_triangle_halves : Nat) (a_o_now_marks : Nat) (a_o_now_seen : Nat) (a_o_now_events : Nat) (a_o_now_book : Nat) (p0 : Int32) (o_hasImage : Int32) (o_triangle_halves : Nat → Int32) (o_now_p : Int32) (o_now_e : Int32) (o_now_modulus : Int32) (o_now_windowRow : Int32) (o_now_windowPlace : Int32) (r : Int32) (hr : f_X6_fullRows p0 o_triangle_halves o_now_modulus = some r) : Met l yX6_fullRows wsX6_fullRows rmX6_fullRows (va_Pc [.ref a_o, .int p0] (pE (dC, dI) cI cJ [(a_o, .inr (5, [.ref a_o_triangle, .ref a_o_now, .ref a_o_kept, .ref a_o_trial, .ref a_o_reader, .ref a_o_tapes, .int o_hasImage])), (a_o_triangle, .inr (4, [.ref a_o_triangle_halves])), (a_o_triangle_halves, .inl (cI, 4160, .inl o_triangle_halves)), (a_o_now, .inr (2, [.ref a_o_triangle, .ref a_o_now_marks, .ref a_o_now_seen, .ref a_o_now_events, .ref a_o_now_book, .int o_now_p, .int o_now_e, .int o_now_modulus, .int o_now_windowRow, .int o_now_windowPlace]))])) (rq (.int r)) 0 0 nofree := by
  refine ro_of_i (cc := cX6_fullRows) (maxL := 4) (by decide) rfl (Nat.le_of_ble_eq_true rfl) ?_
  intro p e s m args below meth c Q ls hx hb hml hown hts hE hP hret hl
  have hK := hE.1
  have hl : lv_has ls 4 [(0, .ref a_o), (1, .int p0)] := hl
  unfold f_X6_fullRows at hr
  have iX3 : ∀ w ∈ wsX30, w ∈ wsX6_fullRows := memr_ (big := wsX6_fullRows) wsX30 [31, 32, 33, 34, 35, 36, 37, 38, 39, 40] (by decide +kernel)
  have iX5 : ∀ w ∈ wsX50, w ∈ wsX6_fullRows := memr_ (big := wsX6_fullRows) wsX50 [41] (by decide +kernel)
  have iX6 : ∀ w ∈ wsX60, w ∈ wsX6_fullRows := memr_ (big := wsX6_fullRows) wsX60 [24, 25, 26, 27, 28, 29, 30] (by decide +kernel)
  refine lv_iconst (v := (0 : Int32)) hx hb dX6_fullRows_0 (by decide) ?_
  refine lv_istore_n (lv' := [(2, .int (0 : Int32)), (0, .ref a_o), (1, .int p0)]) hx hb dX6_fullRows_1 rfl hl (by decide) rfl (fun ls hl => ?_)
  refine lv_iconst (v := (0 : Int32)) hx hb dX6_fullRows_2 (by decide) ?_
  refine lv_istore_n (lv' := [(3, .int (0 : Int32)), (2, .int (0 : Int32)), (0, .ref a_o), (1, .int p0)]) hx hb dX6_fullRows_3 rfl hl (by decide) rfl (fun ls hl => ?_)
  have hL4 : ∀ (v1_4 : Int32) (k_4 : Int32 → Option (Int32)) (hk : ∀ (x2_4 : Int32) (ls : Array Slot), lv_has ls 4 [(2, .int x2_4)] → k_4 x2_4 = some r → W p l e rmX6_fullRows s m args below meth c s.heap [] 0 0 Q (F0 m 27 ls [])) (fuel : Nat) (v2_4 : Int32) (v3_4 : Int32) (ls : Array Slot), lv_has ls 4 [(0, .ref a_o), (1, .int v1_4), (2, .int v2_4), (3, .int v3_4)] → f_X6_fullRows_L4 k_4 v1_4 o_triangle_halves o_now_modulus fuel v2_4 v3_4 = some r → W p l e rmX6_fullRows s m args below meth c s.heap [] 0 0 Q (F0 m 4 ls []) := by
    intro v1_4 k_4 hk fuel
    induction fuel with
    | zero =>
      intro v2_4 v3_4 ls hl hr
      rw [f_X6_fullRows_L4_z] at hr
      cases hr
    | succ fuel ih =>
      intro v2_4 v3_4 ls hl hr
      rw [f_X6_fullRows_L4_s] at hr
      refine lv_iload_n hx hb dX6_fullRows_4 rfl (lv_at hl 3 rfl) ?_
      refine lv_iload_n hx hb dX6_fullRows_5 rfl (lv_at hl 1 rfl) ?_
      refine lv_icmp_gt (tgt := 27) hx hb dX6_fullRows_6 (by decide) (fun c_1 => ?_) (fun c_1 => ?_)
      · have hr := ite_p hr c_1
        exact hk v2_4 ls (lv_sub hl [2] rfl) hr
      · have hr := ite_n hr c_1
        refine lv_aload_n hx hb dX6_fullRows_9 rfl (lv_at hl 0 rfl) ?_
        refine lv_iload_n hx hb dX6_fullRows_10 rfl (lv_at hl 3 rfl) ?_
        refine lv_iconst (v := (0 : Int32)) hx hb dX6_fullRows_11 (by decide) ?_
        obtain ⟨u_2, hu_2, hr⟩ := bd_e hr
        refine ro_V ⟨hx, hb, hml, hown, hts⟩ (k_X6_countOf l dC dI cI cJ a_o a_o_triangle a_o_now a_o_kept a_o_trial a_o_reader a_o_tapes a_o_triangle_halves a_o_now_marks a_o_now_seen a_o_now_events a_o_now_book v3_4 (0 : Int32) o_hasImage o_triangle_halves o_now_p o_now_e o_now_modulus o_now_windowRow o_now_windowPlace u_2 hu_2) (cwV 2 hts gX6_fullRows_X6_countOf rfl rfl rfl (by decide +kernel) ⟨Nat.le_of_ble_eq_true rfl, Nat.le_of_ble_eq_true rfl⟩) hE hP 0 rfl rfl rfl (hP.sub [0, 1, 2, 3] rfl) rfl hl.1 rfl (Nat.le_of_ble_eq_true rfl) dX6_fullRows_12 ⟨Nat.zero_le _, Nat.zero_le _⟩ ?_
        have hJ_3 : ∀ (y_4 : Int32) (ey_4 : y_4 = (if (¬ (u_2 = 0)) then v2_4 else (v2_4 + (1 : Int32)))) (ls : Array Slot), lv_has ls 4 [(0, .ref a_o), (1, .int v1_4), (2, .int y_4), (3, .int v3_4)] → W p l e rmX6_fullRows s m args below meth c s.heap [] 0 0 Q (F0 m 21 ls []) := by
          intro y_4 ey_4 ls hl
          subst ey_4
          refine lv_iinc (v := (v3_4 + (1 : Int32))) (lv' := [(3, .int (v3_4 + (1 : Int32))), (0, .ref a_o), (1, .int v1_4), (2, .int (if (¬ (u_2 = 0)) then v2_4 else (v2_4 + (1 : Int32))))]) hx hb dX6_fullRows_21 hl (k := 3) rfl (congrArg (fun z => v3_4 + z) (by decide)) (by decide) rfl (fun ls hl => ?_)
          refine lv_goto (tgt := 4) hx hb dX6_fullRows_24 (by decide) ?_
          exact ih (if (¬ (u_2 = 0)) then v2_4 else (v2_4 + (1 : Int32))) (v3_4 + (1 : Int32)) ls (lv_sub hl [1, 2, 3, 0] rfl) hr
        refine lv_if_ne (tgt := 21) hx hb dX6_fullRows_15 (by decide) (fun c_5 => ?_) (fun c_5 => ?_)
        · exact hJ_3 _ (if_pos c_5).symm ls (lv_sub hl [0, 1, 2, 3] rfl)
        · refine lv_iinc (v := (v2_4 + (1 : Int32))) (lv' := [(2, .int (v2_4 + (1 : Int32))), (0, .ref a_o), (1, .int v1_4), (3, .int v3_4)]) hx hb dX6_fullRows_18 hl (k := 2) rfl (congrArg (fun z => v2_4 + z) (by decide)) (by decide) rfl (fun ls hl => ?_)
          exact hJ_3 _ (if_neg (fun h => h c_5)).symm ls (lv_sub hl [1, 2, 0, 3] rfl)
  refine hL4 p0 _ (fun x2_4 ls hl hr => ?_) 5000 (0 : Int32) (0 : Int32) ls (lv_sub hl [2, 3, 1, 0] rfl) hr
  refine lv_iload_n hx hb dX6_fullRows_27 rfl (lv_at hl 0 rfl) ?_
  exact hret 28 ls _ dX6_fullRows_28 (Option.some.inj hr)
/-! X6_lastFullRow -/
def rmX6_lastFullRow : Room := { frames := 4, cells := 0, slots := 0, locals := 93 }
set_option maxHeartbeats 4000000 in
set_option maxRecDepth 100000 in
theorem k_X6_lastFullRow (l : Launch) (dC : Nat → ClassId) (dI : Nat → Nat → Nat) (cI cJ : ClassId) (a_o : Nat) (a_o_triangle : Nat) (a_o_now : Nat) (a_o_kept : Nat) (a_o_trial : Nat) (a_o_reader : Nat) (a_o_tapes : Nat) (a_o_triangle_halves : Nat) (a_o_now_marks : Nat) (a_o_now_seen : Nat) (a_o_now_events : Nat) (a_o_now_book : Nat) (p0 : Int32) (o_hasImage : Int32) (o_triangle_halves : Nat → Int32) (o_now_p : Int32) (o_now_e : Int32) (o_now_modulus : Int32) (o_now_windowRow : Int32) (o_now_windowPlace : Int32) (r : Int32) (hr : f_X6_lastFullRow p0 o_triangle_halves o_now_modulus = some r) : Met l yX6_lastFullRow wsX6_lastFullRow rmX6_lastFullRow (va_Pc [.ref a_o, .int p0] (pE (dC, dI) cI cJ [(a_o, .inr (5, [.ref a_o_triangle, .ref a_o_now, .ref a_o_kept, .ref a_o_trial, .ref a_o_reader, .ref a_o_tapes, .int o_hasImage])), (a_o_triangle, .inr (4, [.ref a_o_triangle_halves])), (a_o_triangle_halves, .inl (cI, 4160, .inl o_triangle_halves)), (a_o_now, .inr (2, [.ref a_o_triangle, .ref a_o_now_marks, .ref a_o_now_seen, .ref a_o_now_events, .ref a_o_now_book, .int o_now_p, .int o_now_e, .int o_now_modulus, .int o_now_windowRow, .int o_now_windowPlace]))])) (rq (.int r)) 0 0 nofree := by
  refine ro_of_i (cc := cX6_lastFullRow) (maxL := 3) (by decide) rfl (Nat.le_of_ble_eq_true rfl) ?_
  intro p e s m args below meth c Q ls hx hb hml hown hts hE hP hret hl
  have hK := hE.1
  have hl : lv_has ls 3 [(0, .ref a_o), (1, .int p0)] := hl
  unfold f_X6_lastFullRow at hr
  have iX3 : ∀ w ∈ wsX30, w ∈ wsX6_lastFullRow := memr_ (big := wsX6_lastFullRow) wsX30 [31, 32, 33, 34, 35, 36, 37, 38, 39, 40] (by decide +kernel)
  have iX5 : ∀ w ∈ wsX50, w ∈ wsX6_lastFullRow := memr_ (big := wsX6_lastFullRow) wsX50 [41] (by decide +kernel)
  have iX6 : ∀ w ∈ wsX60, w ∈ wsX6_lastFullRow := memr_ (big := wsX6_lastFullRow) wsX60 [24, 25, 26, 27, 28, 29, 30] (by decide +kernel)
  refine lv_iload_n hx hb dX6_lastFullRow_0 rfl (lv_at hl 1 rfl) ?_
  refine lv_istore_n (lv' := [(2, .int p0), (0, .ref a_o), (1, .int p0)]) hx hb dX6_lastFullRow_1 rfl hl (by decide) rfl (fun ls hl => ?_)
  have hL2 : ∀  (k_2 : Option (Int32)) (hk : ∀  (ls : Array Slot), lv_has ls 3 [] → k_2 = some r → W p l e rmX6_lastFullRow s m args below meth c s.heap [] 0 0 Q (F0 m 23 ls [])) (fuel : Nat) (v2_2 : Int32) (ls : Array Slot), lv_has ls 3 [(0, .ref a_o), (2, .int v2_2)] → f_X6_lastFullRow_L2 k_2 o_triangle_halves o_now_modulus fuel v2_2 = some r → W p l e rmX6_lastFullRow s m args below meth c s.heap [] 0 0 Q (F0 m 2 ls []) := by
    intro k_2 hk fuel
    induction fuel with
    | zero =>
      intro v2_2 ls hl hr
      rw [f_X6_lastFullRow_L2_z] at hr
      cases hr
    | succ fuel ih =>
      intro v2_2 ls hl hr
      rw [f_X6_lastFullRow_L2_s] at hr
      refine lv_iload_n hx hb dX6_lastFullRow_2 rfl (lv_at hl 1 rfl) ?_
      refine lv_if_le (tgt := 23) hx hb dX6_lastFullRow_3 (by decide) (fun c_1 => ?_) (fun c_1 => ?_)
      · have hr := ite_p hr c_1
        exact hk  ls (lv_sub hl [] rfl) hr
      · have hr := ite_n hr c_1
        refine lv_aload_n hx hb dX6_lastFullRow_6 rfl (lv_at hl 0 rfl) ?_
        refine lv_iload_n hx hb dX6_lastFullRow_7 rfl (lv_at hl 1 rfl) ?_
        refine lv_iconst (v := (0 : Int32)) hx hb dX6_lastFullRow_8 (by decide) ?_
        obtain ⟨u_2, hu_2, hr⟩ := bd_e hr
        refine ro_V ⟨hx, hb, hml, hown, hts⟩ (k_X6_countOf l dC dI cI cJ a_o a_o_triangle a_o_now a_o_kept a_o_trial a_o_reader a_o_tapes a_o_triangle_halves a_o_now_marks a_o_now_seen a_o_now_events a_o_now_book v2_2 (0 : Int32) o_hasImage o_triangle_halves o_now_p o_now_e o_now_modulus o_now_windowRow o_now_windowPlace u_2 hu_2) (cwV 2 hts gX6_lastFullRow_X6_countOf rfl rfl rfl (by decide +kernel) ⟨Nat.le_of_ble_eq_true rfl, Nat.le_of_ble_eq_true rfl⟩) hE hP 0 rfl rfl rfl (hP.sub [0, 1, 2, 3] rfl) rfl hl.1 rfl (Nat.le_of_ble_eq_true rfl) dX6_lastFullRow_9 ⟨Nat.zero_le _, Nat.zero_le _⟩ ?_
        refine lv_if_ne (tgt := 17) hx hb dX6_lastFullRow_12 (by decide) (fun c_3 => ?_) (fun c_3 => ?_)
        · have hr := ite_n hr c_3
          refine lv_iinc (v := (v2_2 + (-1 : Int32))) (lv' := [(2, .int (v2_2 + (-1 : Int32))), (0, .ref a_o)]) hx hb dX6_lastFullRow_17 hl (k := 1) rfl (congrArg (fun z => v2_2 + z) (by decide)) (by decide) rfl (fun ls hl => ?_)
          refine lv_goto (tgt := 2) hx hb dX6_lastFullRow_20 (by decide) ?_
          exact ih (v2_2 + (-1 : Int32)) ls (lv_sub hl [1, 0] rfl) hr
        · have hr := ite_p hr c_3
          refine lv_iload_n hx hb dX6_lastFullRow_15 rfl (lv_at hl 1 rfl) ?_
          exact hret 16 ls _ dX6_lastFullRow_16 (Option.some.inj hr)
  refine hL2  _ (fun  ls hl hr => ?_) 5000 p0 ls (lv_sub hl [1, 0] rfl) hr
  refine lv_iconst (v := (0 : Int32)) hx hb dX6_lastFullRow_23 (by decide) ?_
  exact hret 24 ls _ dX6_lastFullRow_24 (Option.some.inj hr)
/-! X6_heaviestRow -/
def rmX6_heaviestRow : Room := { frames := 4, cells := 0, slots := 0, locals := 93 }
set_option maxHeartbeats 4000000 in
set_option maxRecDepth 100000 in
theorem k_X6_heaviestRow (l : Launch) (dC : Nat → ClassId) (dI : Nat → Nat → Nat) (cI cJ : ClassId) (a_o : Nat) (a_o_triangle : Nat) (a_o_now : Nat) (a_o_kept : Nat) (a_o_trial : Nat) (a_o_reader : Nat) (a_o_tapes : Nat) (a_o_triangle_halves : Nat) (a_o_now_marks : Nat) (a_o_now_seen : Nat) (a_o_now_events : Nat) (a_o_now_book : Nat) (p0 : Int32) (o_hasImage : Int32) (o_triangle_halves : Nat → Int32) (o_now_p : Int32) (o_now_e : Int32) (o_now_modulus : Int32) (o_now_windowRow : Int32) (o_now_windowPlace : Int32) (r : Int32) (hr : f_X6_heaviestRow p0 o_triangle_halves o_now_modulus = some r) : Met l yX6_heaviestRow wsX6_heaviestRow rmX6_heaviestRow (va_Pc [.ref a_o, .int p0] (pE (dC, dI) cI cJ [(a_o, .inr (5, [.ref a_o_triangle, .ref a_o_now, .ref a_o_kept, .ref a_o_trial, .ref a_o_reader, .ref a_o_tapes, .int o_hasImage])), (a_o_triangle, .inr (4, [.ref a_o_triangle_halves])), (a_o_triangle_halves, .inl (cI, 4160, .inl o_triangle_halves)), (a_o_now, .inr (2, [.ref a_o_triangle, .ref a_o_now_marks, .ref a_o_now_seen, .ref a_o_now_events, .ref a_o_now_book, .int o_now_p, .int o_now_e, .int o_now_modulus, .int o_now_windowRow, .int o_now_windowPlace]))])) (rq (.int r)) 0 0 nofree := by
  refine ro_of_i (cc := cX6_heaviestRow) (maxL := 6) (by decide) rfl (Nat.le_of_ble_eq_true rfl) ?_
  intro p e s m args below meth c Q ls hx hb hml hown hts hE hP hret hl
  have hK := hE.1
  have hl : lv_has ls 6 [(0, .ref a_o), (1, .int p0)] := hl
  unfold f_X6_heaviestRow at hr
  have iX3 : ∀ w ∈ wsX30, w ∈ wsX6_heaviestRow := memr_ (big := wsX6_heaviestRow) wsX30 [31, 32, 33, 34, 35, 36, 37, 38, 39, 40] (by decide +kernel)
  have iX5 : ∀ w ∈ wsX50, w ∈ wsX6_heaviestRow := memr_ (big := wsX6_heaviestRow) wsX50 [41] (by decide +kernel)
  have iX6 : ∀ w ∈ wsX60, w ∈ wsX6_heaviestRow := memr_ (big := wsX6_heaviestRow) wsX60 [24, 25, 26, 27, 28, 29, 30] (by decide +kernel)
  refine lv_iconst (v := (0 : Int32)) hx hb dX6_heaviestRow_0 (by decide) ?_
  refine lv_istore_n (lv' := [(2, .int (0 : Int32)), (0, .ref a_o), (1, .int p0)]) hx hb dX6_heaviestRow_1 rfl hl (by decide) rfl (fun ls hl => ?_)
  refine lv_iconst (v := (0 : Int32)) hx hb dX6_heaviestRow_2 (by decide) ?_
  refine lv_istore_n (lv' := [(3, .int (0 : Int32)), (2, .int (0 : Int32)), (0, .ref a_o), (1, .int p0)]) hx hb dX6_heaviestRow_3 rfl hl (by decide) rfl (fun ls hl => ?_)
  refine lv_iconst (v := (0 : Int32)) hx hb dX6_heaviestRow_4 (by decide) ?_
  refine lv_istore (lv' := [(4, .int (0 : Int32)), (3, .int (0 : Int32)), (2, .int (0 : Int32)), (0, .ref a_o), (1, .int p0)]) hx hb dX6_heaviestRow_5 hl (by decide) rfl (fun ls hl => ?_)
  have hL7 : ∀ (v1_7 : Int32) (k_7 : Int32 → Option (Int32)) (hk : ∀ (x2_7 : Int32) (ls : Array Slot), lv_has ls 6 [(2, .int x2_7)] → k_7 x2_7 = some r → W p l e rmX6_heaviestRow s m args below meth c s.heap [] 0 0 Q (F0 m 40 ls [])) (fuel : Nat) (v2_7 : Int32) (v3_7 : Int32) (v4_7 : Int32) (ls : Array Slot), lv_has ls 6 [(0, .ref a_o), (1, .int v1_7), (2, .int v2_7), (3, .int v3_7), (4, .int v4_7)] → f_X6_heaviestRow_L7 k_7 v1_7 o_triangle_halves o_now_modulus fuel v2_7 v3_7 v4_7 = some r → W p l e rmX6_heaviestRow s m args below meth c s.heap [] 0 0 Q (F0 m 7 ls []) := by
    intro v1_7 k_7 hk fuel
    induction fuel with
    | zero =>
      intro v2_7 v3_7 v4_7 ls hl hr
      rw [f_X6_heaviestRow_L7_z] at hr
      cases hr
    | succ fuel ih =>
      intro v2_7 v3_7 v4_7 ls hl hr
      rw [f_X6_heaviestRow_L7_s] at hr
      refine lv_iload hx hb dX6_heaviestRow_7 (lv_at hl 4 rfl) ?_
      refine lv_iload_n hx hb dX6_heaviestRow_9 rfl (lv_at hl 1 rfl) ?_
      refine lv_icmp_gt (tgt := 40) hx hb dX6_heaviestRow_10 (by decide) (fun c_1 => ?_) (fun c_1 => ?_)
      · have hr := ite_p hr c_1
        exact hk v2_7 ls (lv_sub hl [2] rfl) hr
      · have hr := ite_n hr c_1
        refine lv_aload_n hx hb dX6_heaviestRow_13 rfl (lv_at hl 0 rfl) ?_
        refine lv_iload hx hb dX6_heaviestRow_14 (lv_at hl 4 rfl) ?_
        refine lv_iconst (v := (0 : Int32)) hx hb dX6_heaviestRow_16 (by decide) ?_
        obtain ⟨u_2, hu_2, hr⟩ := bd_e hr
        refine ro_V ⟨hx, hb, hml, hown, hts⟩ (k_X6_countOf l dC dI cI cJ a_o a_o_triangle a_o_now a_o_kept a_o_trial a_o_reader a_o_tapes a_o_triangle_halves a_o_now_marks a_o_now_seen a_o_now_events a_o_now_book v4_7 (0 : Int32) o_hasImage o_triangle_halves o_now_p o_now_e o_now_modulus o_now_windowRow o_now_windowPlace u_2 hu_2) (cwV 2 hts gX6_heaviestRow_X6_countOf rfl rfl rfl (by decide +kernel) ⟨Nat.le_of_ble_eq_true rfl, Nat.le_of_ble_eq_true rfl⟩) hE hP 0 rfl rfl rfl (hP.sub [0, 1, 2, 3] rfl) rfl hl.1 rfl (Nat.le_of_ble_eq_true rfl) dX6_heaviestRow_17 ⟨Nat.zero_le _, Nat.zero_le _⟩ ?_
        refine lv_istore (lv' := [(5, .int u_2), (0, .ref a_o), (1, .int v1_7), (2, .int v2_7), (3, .int v3_7), (4, .int v4_7)]) hx hb dX6_heaviestRow_20 hl (by decide) rfl (fun ls hl => ?_)
        refine lv_iload hx hb dX6_heaviestRow_22 (lv_at hl 0 rfl) ?_
        refine lv_iload_n hx hb dX6_heaviestRow_24 rfl (lv_at hl 4 rfl) ?_
        have hJ_3 : ∀ (y_4 : Int32) (ey_4 : y_4 = (if (u_2 ≤ v3_7) then v2_7 else v4_7)) (y_5 : Int32) (ey_5 : y_5 = (if (u_2 ≤ v3_7) then v3_7 else u_2)) (ls : Array Slot), lv_has ls 6 [(0, .ref a_o), (1, .int v1_7), (2, .int y_4), (3, .int y_5), (4, .int v4_7)] → W p l e rmX6_heaviestRow s m args below meth c s.heap [] 0 0 Q (F0 m 34 ls []) := by
          intro y_4 ey_4 y_5 ey_5 ls hl
          subst ey_4
          subst ey_5
          refine lv_iinc (v := (v4_7 + (1 : Int32))) (lv' := [(4, .int (v4_7 + (1 : Int32))), (0, .ref a_o), (1, .int v1_7), (2, .int (if (u_2 ≤ v3_7) then v2_7 else v4_7)), (3, .int (if (u_2 ≤ v3_7) then v3_7 else u_2))]) hx hb dX6_heaviestRow_34 hl (k := 4) rfl (congrArg (fun z => v4_7 + z) (by decide)) (by decide) rfl (fun ls hl => ?_)
          refine lv_goto (tgt := 7) hx hb dX6_heaviestRow_37 (by decide) ?_
          exact ih (if (u_2 ≤ v3_7) then v2_7 else v4_7) (if (u_2 ≤ v3_7) then v3_7 else u_2) (v4_7 + (1 : Int32)) ls (lv_sub hl [1, 2, 3, 4, 0] rfl) hr
        refine lv_icmp_le (tgt := 34) hx hb dX6_heaviestRow_25 (by decide) (fun c_6 => ?_) (fun c_6 => ?_)
        · exact hJ_3 _ (if_pos c_6).symm _ (if_pos c_6).symm ls (lv_sub hl [1, 2, 3, 4, 5] rfl)
        · refine lv_iload hx hb dX6_heaviestRow_28 (lv_at hl 0 rfl) ?_
          refine lv_istore_n (lv' := [(3, .int u_2), (5, .int u_2), (0, .ref a_o), (1, .int v1_7), (2, .int v2_7), (4, .int v4_7)]) hx hb dX6_heaviestRow_30 rfl hl (by decide) rfl (fun ls hl => ?_)
          refine lv_iload hx hb dX6_heaviestRow_31 (lv_at hl 5 rfl) ?_
          refine lv_istore_n (lv' := [(2, .int v4_7), (3, .int u_2), (5, .int u_2), (0, .ref a_o), (1, .int v1_7), (4, .int v4_7)]) hx hb dX6_heaviestRow_33 rfl hl (by decide) rfl (fun ls hl => ?_)
          exact hJ_3 _ (if_neg c_6).symm _ (if_neg c_6).symm ls (lv_sub hl [3, 4, 0, 1, 5] rfl)
  refine hL7 p0 _ (fun x2_7 ls hl hr => ?_) 5000 (0 : Int32) (0 : Int32) (0 : Int32) ls (lv_sub hl [3, 4, 2, 1, 0] rfl) hr
  refine lv_iload_n hx hb dX6_heaviestRow_40 rfl (lv_at hl 0 rfl) ?_
  exact hret 41 ls _ dX6_heaviestRow_41 (Option.some.inj hr)
/-! X6_upTo -/
def rmX6_upTo : Room := { frames := 5, cells := 0, slots := 0, locals := 118 }
set_option maxHeartbeats 4000000 in
set_option maxRecDepth 100000 in
theorem k_X6_upTo (l : Launch) (dC : Nat → ClassId) (dI : Nat → Nat → Nat) (cI cJ : ClassId) (a_o : Nat) (a_o_triangle : Nat) (a_o_now : Nat) (a_o_kept : Nat) (a_o_trial : Nat) (a_o_reader : Nat) (a_o_tapes : Nat) (a_o_triangle_halves : Nat) (a_o_now_marks : Nat) (a_o_now_seen : Nat) (a_o_now_events : Nat) (a_o_now_book : Nat) (p0 : Int32) (p1 : Int32) (o_hasImage : Int32) (o_triangle_halves : Nat → Int32) (o_now_p : Int32) (o_now_e : Int32) (o_now_modulus : Int32) (o_now_windowRow : Int32) (o_now_windowPlace : Int32) (r : Int32) (hr : f_X6_upTo p0 p1 o_triangle_halves o_now_modulus = some r) : Met l yX6_upTo wsX6_upTo rmX6_upTo (va_Pc [.ref a_o, .int p0, .int p1] (pE (dC, dI) cI cJ [(a_o, .inr (5, [.ref a_o_triangle, .ref a_o_now, .ref a_o_kept, .ref a_o_trial, .ref a_o_reader, .ref a_o_tapes, .int o_hasImage])), (a_o_triangle, .inr (4, [.ref a_o_triangle_halves])), (a_o_triangle_halves, .inl (cI, 4160, .inl o_triangle_halves)), (a_o_now, .inr (2, [.ref a_o_triangle, .ref a_o_now_marks, .ref a_o_now_seen, .ref a_o_now_events, .ref a_o_now_book, .int o_now_p, .int o_now_e, .int o_now_modulus, .int o_now_windowRow, .int o_now_windowPlace]))])) (rq (.int r)) 0 0 nofree := by
  refine ro_of_i (cc := cX6_upTo) (maxL := 3) (by decide) rfl (Nat.le_of_ble_eq_true rfl) ?_
  intro p e s m args below meth c Q ls hx hb hml hown hts hE hP hret hl
  have hK := hE.1
  have hl : lv_has ls 3 [(0, .ref a_o), (1, .int p0), (2, .int p1)] := hl
  unfold f_X6_upTo at hr
  have iX3 : ∀ w ∈ wsX30, w ∈ wsX6_upTo := memr_ (big := wsX6_upTo) wsX30 [49, 50, 51, 52, 53, 54, 55, 56, 57, 58] (by decide +kernel)
  have iX5 : ∀ w ∈ wsX50, w ∈ wsX6_upTo := memr_ (big := wsX6_upTo) wsX50 [59] (by decide +kernel)
  have iX6 : ∀ w ∈ wsX60, w ∈ wsX6_upTo := memr_ (big := wsX6_upTo) wsX60 [42, 43, 44, 45, 46, 47, 48] (by decide +kernel)
  refine lv_iload_n hx hb dX6_upTo_0 rfl (lv_at hl 1 rfl) ?_
  refine ro_S ⟨hx, hb, hml, hown, hts⟩ (k_X6_isRow l dC dI cI cJ p0) (va_cwS 1 hts gX6_upTo_X6_isRow rfl rfl rfl (by decide +kernel) ⟨Nat.le_of_ble_eq_true rfl, Nat.le_of_ble_eq_true rfl⟩) hE (hP.sub [] rfl) rfl hl.1 rfl (Nat.le_of_ble_eq_true rfl) dX6_upTo_1 ⟨Nat.zero_le _, Nat.zero_le _⟩ ?_
  refine lv_if_ne (tgt := 9) hx hb dX6_upTo_4 (by decide) (fun c_1 => ?_) (fun c_1 => ?_)
  · have hr := ite_n hr c_1
    refine lv_iload_n hx hb dX6_upTo_9 rfl (lv_at hl 2 rfl) ?_
    by_cases c_2 : p1 = (0 : Int32)
    · have hr := ite_p hr c_2
      refine W.eq (g2 := F0 m 10 ls (.int (0 : Int32) :: [])) (congrArg (fun z => F0 m 10 ls (.int z :: [])) c_2) ?_
      refine lv_tableIn (tgt := 36) hx hb dX6_upTo_10 (by decide) (by decide) (by first | rfl | decide) (by decide) ?_
      refine lv_aload_n hx hb dX6_upTo_36 rfl (lv_at hl 0 rfl) ?_
      refine lv_iload_n hx hb dX6_upTo_37 rfl (lv_at hl 1 rfl) ?_
      obtain ⟨u_3, hu_3, hr⟩ := bd_e hr
      refine ro_V ⟨hx, hb, hml, hown, hts⟩ (k_X6_fullRows l dC dI cI cJ a_o a_o_triangle a_o_now a_o_kept a_o_trial a_o_reader a_o_tapes a_o_triangle_halves a_o_now_marks a_o_now_seen a_o_now_events a_o_now_book p0 o_hasImage o_triangle_halves o_now_p o_now_e o_now_modulus o_now_windowRow o_now_windowPlace u_3 hu_3) (cwV 1 hts gX6_upTo_X6_fullRows rfl rfl rfl (by decide +kernel) ⟨Nat.le_of_ble_eq_true rfl, Nat.le_of_ble_eq_true rfl⟩) hE hP 0 rfl rfl rfl (hP.sub [0, 1, 2, 3] rfl) rfl hl.1 rfl (Nat.le_of_ble_eq_true rfl) dX6_upTo_38 ⟨Nat.zero_le _, Nat.zero_le _⟩ ?_
      exact hret 41 ls _ dX6_upTo_41 (Option.some.inj hr)
    have hr := ite_n hr c_2
    by_cases c_4 : p1 = (1 : Int32)
    · have hr := ite_p hr c_4
      refine W.eq (g2 := F0 m 10 ls (.int (1 : Int32) :: [])) (congrArg (fun z => F0 m 10 ls (.int z :: [])) c_4) ?_
      refine lv_tableIn (tgt := 42) hx hb dX6_upTo_10 (by decide) (by decide) (by first | rfl | decide) (by decide) ?_
      refine lv_aload_n hx hb dX6_upTo_42 rfl (lv_at hl 0 rfl) ?_
      refine lv_iload_n hx hb dX6_upTo_43 rfl (lv_at hl 1 rfl) ?_
      obtain ⟨u_5, hu_5, hr⟩ := bd_e hr
      refine ro_V ⟨hx, hb, hml, hown, hts⟩ (k_X6_lastFullRow l dC dI cI cJ a_o a_o_triangle a_o_now a_o_kept a_o_trial a_o_reader a_o_tapes a_o_triangle_halves a_o_now_marks a_o_now_seen a_o_now_events a_o_now_book p0 o_hasImage o_triangle_halves o_now_p o_now_e o_now_modulus o_now_windowRow o_now_windowPlace u_5 hu_5) (cwV 1 hts gX6_upTo_X6_lastFullRow rfl rfl rfl (by decide +kernel) ⟨Nat.le_of_ble_eq_true rfl, Nat.le_of_ble_eq_true rfl⟩) hE hP 0 rfl rfl rfl (hP.sub [0, 1, 2, 3] rfl) rfl hl.1 rfl (Nat.le_of_ble_eq_true rfl) dX6_upTo_44 ⟨Nat.zero_le _, Nat.zero_le _⟩ ?_
      exact hret 47 ls _ dX6_upTo_47 (Option.some.inj hr)
    have hr := ite_n hr c_4
    by_cases c_6 : p1 = (2 : Int32)
    · have hr := ite_p hr c_6
      refine W.eq (g2 := F0 m 10 ls (.int (2 : Int32) :: [])) (congrArg (fun z => F0 m 10 ls (.int z :: [])) c_6) ?_
      refine lv_tableIn (tgt := 48) hx hb dX6_upTo_10 (by decide) (by decide) (by first | rfl | decide) (by decide) ?_
      refine lv_aload_n hx hb dX6_upTo_48 rfl (lv_at hl 0 rfl) ?_
      refine lv_iload_n hx hb dX6_upTo_49 rfl (lv_at hl 1 rfl) ?_
      obtain ⟨u_7, hu_7, hr⟩ := bd_e hr
      refine ro_V ⟨hx, hb, hml, hown, hts⟩ (k_X6_heaviestRow l dC dI cI cJ a_o a_o_triangle a_o_now a_o_kept a_o_trial a_o_reader a_o_tapes a_o_triangle_halves a_o_now_marks a_o_now_seen a_o_now_events a_o_now_book p0 o_hasImage o_triangle_halves o_now_p o_now_e o_now_modulus o_now_windowRow o_now_windowPlace u_7 hu_7) (cwV 1 hts gX6_upTo_X6_heaviestRow rfl rfl rfl (by decide +kernel) ⟨Nat.le_of_ble_eq_true rfl, Nat.le_of_ble_eq_true rfl⟩) hE hP 0 rfl rfl rfl (hP.sub [0, 1, 2, 3] rfl) rfl hl.1 rfl (Nat.le_of_ble_eq_true rfl) dX6_upTo_50 ⟨Nat.zero_le _, Nat.zero_le _⟩ ?_
      exact hret 53 ls _ dX6_upTo_53 (Option.some.inj hr)
    have hr := ite_n hr c_6
    refine lv_tableOut (tgt := 54) hx hb dX6_upTo_10 (tbl_out (fun k h1 h2 => ?_)) (by decide) ?_
    · rcases (show k = 0 ∨ k = 1 ∨ k = 2 by omega) with rfl | rfl | rfl
      · exact i32_ne c_2 rfl
      · exact i32_ne c_4 rfl
      · exact i32_ne c_6 rfl
    refine lv_iconst (v := (-1 : Int32)) hx hb dX6_upTo_54 (by decide) ?_
    exact hret 55 ls _ dX6_upTo_55 (Option.some.inj hr)
  · have hr := ite_p hr c_1
    refine lv_iconst (v := (-1 : Int32)) hx hb dX6_upTo_7 (by decide) ?_
    exact hret 8 ls _ dX6_upTo_8 (Option.some.inj hr)
