/-! X3_become -/
def rmX3_become : Room := { frames := 1, cells := 0, slots := 0, locals := 23 }
set_option maxHeartbeats 4000000 in
set_option maxRecDepth 100000 in
theorem k_X3_become (l : Launch) (dC : Nat → ClassId) (dI : Nat → Nat → Nat) (cI cJ : ClassId) (a_o : Nat) (a_o_triangle : Nat) (a_o_marks : Nat) (a_o_seen : Nat) (a_o_events : Nat) (a_o_book : Nat) (p0 : Int32) (p1 : Int32) (o_p : Int32) (o_e : Int32) (o_modulus : Int32) (o_windowRow : Int32) (o_windowPlace : Int32) (sz : Nat) (r : Int32 × Int32 × Int32) (hr : f_X3_become p0 p1 o_p o_e o_modulus = some r) : Met l yX3_become wsX3_become rmX3_become (va_Pc [.ref a_o, .int p0, .int p1] (pM (dC, dI) cI cJ [(a_o, .inr (2, [.ref a_o_triangle, .ref a_o_marks, .ref a_o_seen, .ref a_o_events, .ref a_o_book, .int o_p, .int o_e, .int o_modulus, .int o_windowRow, .int o_windowPlace]))] sz)) (qM none (dC, dI) [(a_o, .inr (2, [.ref a_o_triangle, .ref a_o_marks, .ref a_o_seen, .ref a_o_events, .ref a_o_book, .int r.1, .int r.2.1, .int r.2.2, .int o_windowRow, .int o_windowPlace]))] (va_A [(a_o, .inr (2, [.ref a_o_triangle, .ref a_o_marks, .ref a_o_seen, .ref a_o_events, .ref a_o_book, .int o_p, .int o_e, .int o_modulus, .int o_windowRow, .int o_windowPlace]))] sz)) 0 0 (va_A [(a_o, .inr (2, [.ref a_o_triangle, .ref a_o_marks, .ref a_o_seen, .ref a_o_events, .ref a_o_book, .int o_p, .int o_e, .int o_modulus, .int o_windowRow, .int o_windowPlace]))] sz) := by
  refine mu_of (cc := cX3_become) (maxL := 3) (by decide) rfl (Nat.le_of_ble_eq_true rfl) ?_
  intro p e s m args below meth c Q ls A hx hb hml hown hts hE hP hD hA hrt hlocks hret hl
  have hK := hE.1
  have hS : va_S A s.heap s.heap [] := va_S.rf
  have hl : lv_has ls 3 [(0, .ref a_o), (1, .int p0), (2, .int p1)] := hl
  unfold f_X3_become at hr
  obtain ⟨H, hHe⟩ : ∃ H, H = s.heap := ⟨_, rfl⟩
  obtain ⟨locs, hLe⟩ : ∃ locs : List Loc, locs = [] := ⟨_, rfl⟩
  suffices hgo : va_P (dC, dI) vwCl [(a_o, .inr (2, [.ref a_o_triangle, .ref a_o_marks, .ref a_o_seen, .ref a_o_events, .ref a_o_book, .int o_p, .int o_e, .int o_modulus, .int o_windowRow, .int o_windowPlace]))] H → va_S A s.heap H locs → W p l e rmX3_become s m args below meth c H locs 0 0 Q (F0 m 0 ls []) by
    subst hHe; subst hLe; exact hgo hP hS
  clear hP hS hHe hLe
  intro hP hS
  have iX3 : ∀ w ∈ wsX30, w ∈ wsX3_become := memr_ (big := wsX3_become) wsX30 [8, 9, 10, 11, 12, 13, 14, 15, 16, 17] (by decide +kernel)
  refine lv_aload_n hx hb dX3_become_0 rfl (lv_at hl 0 rfl) ?_
  refine lv_iload_n hx hb dX3_become_1 rfl (lv_at hl 1 rfl) ?_
  refine va_put (D := (dC, dI)) (ci := 2) (v := .int p0) (ty := .int) (C := RX3) (T := TX3) (N := 10) hx hb hts iX3 tyX3 tyX3_ok nmX3 hown hK hP (hD.fst rfl) hS 0 rfl rfl 5 (by decide) (hts (.fieldLink RX3 29 "PascalRows$Setup" "p" "I") (List.mem_of_getElem? (i := 1) rfl)) (fun _ h9 => h9) rfl (by decide +kernel) rfl rfl (Nat.le_of_ble_eq_true rfl) dX3_become_2 (fun H locs hP _ hS => ?_)
  have hP : va_P (dC, dI) vwCl [(a_o, .inr (2, [.ref a_o_triangle, .ref a_o_marks, .ref a_o_seen, .ref a_o_events, .ref a_o_book, .int p0, .int o_e, .int o_modulus, .int o_windowRow, .int o_windowPlace]))] H := hP
  refine lv_aload_n hx hb dX3_become_5 rfl (lv_at hl 0 rfl) ?_
  refine lv_iload_n hx hb dX3_become_6 rfl (lv_at hl 2 rfl) ?_
  refine va_put (D := (dC, dI)) (ci := 2) (v := .int p1) (ty := .int) (C := RX3) (T := TX3) (N := 10) hx hb hts iX3 tyX3 tyX3_ok nmX3 hown hK hP (hD.fst rfl) hS 0 rfl rfl 6 (by decide) (hts (.fieldLink RX3 33 "PascalRows$Setup" "e" "I") (List.mem_of_getElem? (i := 2) rfl)) (fun _ h9 => h9) rfl (by decide +kernel) rfl rfl (Nat.le_of_ble_eq_true rfl) dX3_become_7 (fun H locs hP _ hS => ?_)
  have hP : va_P (dC, dI) vwCl [(a_o, .inr (2, [.ref a_o_triangle, .ref a_o_marks, .ref a_o_seen, .ref a_o_events, .ref a_o_book, .int p0, .int p1, .int o_modulus, .int o_windowRow, .int o_windowPlace]))] H := hP
  refine lv_aload_n hx hb dX3_become_10 rfl (lv_at hl 0 rfl) ?_
  refine lv_iload_n hx hb dX3_become_11 rfl (lv_at hl 1 rfl) ?_
  refine lv_iload_n hx hb dX3_become_12 rfl (lv_at hl 2 rfl) ?_
  obtain ⟨u_1, hu_1, hr⟩ := bd_e hr
  refine ro_S ⟨hx, hb, hml, hown, hts⟩ (k_X0_powerOf l dC dI cI cJ p0 p1 u_1 hu_1) (va_cwS 2 hts gX3_become_X0_powerOf rfl rfl rfl (by decide +kernel) ⟨Nat.le_of_ble_eq_true rfl, Nat.le_of_ble_eq_true rfl⟩) hE (hP.sub [] rfl) rfl hl.1 rfl (Nat.le_of_ble_eq_true rfl) dX3_become_13 ⟨Nat.zero_le _, Nat.zero_le _⟩ ?_
  refine va_put (D := (dC, dI)) (ci := 2) (v := .int u_1) (ty := .int) (C := RX3) (T := TX3) (N := 10) hx hb hts iX3 tyX3 tyX3_ok nmX3 hown hK hP (hD.fst rfl) hS 0 rfl rfl 7 (by decide) (hts (.fieldLink RX3 36 "PascalRows$Setup" "modulus" "I") (List.mem_of_getElem? (i := 3) rfl)) (fun _ h9 => h9) rfl (by decide +kernel) rfl rfl (Nat.le_of_ble_eq_true rfl) dX3_become_16 (fun H locs hP _ hS => ?_)
  have hP : va_P (dC, dI) vwCl [(a_o, .inr (2, [.ref a_o_triangle, .ref a_o_marks, .ref a_o_seen, .ref a_o_events, .ref a_o_book, .int p0, .int p1, .int u_1, .int o_windowRow, .int o_windowPlace]))] H := hP
  obtain rfl := Option.some.inj hr
  exact hret H locs _ hP hS (fun Qc free hq hf => W.vret hx hb hrt hq hf dX3_become_19 hlocks)
/-! X3_copyFrom -/
def rmX3_copyFrom : Room := { frames := 2, cells := 0, slots := 0, locals := 81 }
set_option maxHeartbeats 4000000 in
set_option maxRecDepth 100000 in
theorem k_X3_copyFrom (l : Launch) (dC : Nat → ClassId) (dI : Nat → Nat → Nat) (cI cJ : ClassId) (a_o : Nat) (a_o_triangle : Nat) (a_o_marks : Nat) (a_o_seen : Nat) (a_o_events : Nat) (a_o_book : Nat) (a_o_marks_numbers : Nat) (a_o_seen_numbers : Nat) (a_o_events_numbers : Nat) (a_o_book_numbers : Nat) (a_b : Nat) (a_b_triangle : Nat) (a_b_marks : Nat) (a_b_seen : Nat) (a_b_events : Nat) (a_b_book : Nat) (a_b_marks_numbers : Nat) (a_b_seen_numbers : Nat) (a_b_events_numbers : Nat) (a_b_book_numbers : Nat) (o_p : Int32) (o_e : Int32) (o_modulus : Int32) (o_windowRow : Int32) (o_windowPlace : Int32) (o_marks_size : Int32) (o_marks_numbers : Nat → Int32) (o_seen_size : Int32) (o_seen_numbers : Nat → Int32) (o_events_size : Int32) (o_events_numbers : Nat → Int32) (o_book_size : Int32) (o_book_numbers : Nat → Int32) (b_p : Int32) (b_e : Int32) (b_modulus : Int32) (b_windowRow : Int32) (b_windowPlace : Int32) (b_marks_size : Int32) (b_marks_numbers : Nat → Int32) (b_seen_size : Int32) (b_seen_numbers : Nat → Int32) (b_events_size : Int32) (b_events_numbers : Nat → Int32) (b_book_size : Int32) (b_book_numbers : Nat → Int32) (sz : Nat) (r : (Nat → Int32) × Int32 × (Nat → Int32) × Int32 × (Nat → Int32) × Int32 × (Nat → Int32) × Int32 × Int32 × Int32 × Int32 × Int32 × Int32) (hr : f_X3_copyFrom o_marks_numbers o_marks_size o_seen_numbers o_seen_size o_events_numbers o_events_size o_book_numbers o_book_size o_p o_e o_modulus o_windowRow o_windowPlace b_marks_numbers b_marks_size b_seen_numbers b_seen_size b_events_numbers b_events_size b_book_numbers b_book_size b_p b_e b_windowRow b_windowPlace = some r) : Met l yX3_copyFrom wsX3_copyFrom rmX3_copyFrom (va_Pc [.ref a_o, .ref a_b] (pM (dC, dI) cI cJ [(a_o, .inr (2, [.ref a_o_triangle, .ref a_o_marks, .ref a_o_seen, .ref a_o_events, .ref a_o_book, .int o_p, .int o_e, .int o_modulus, .int o_windowRow, .int o_windowPlace])), (a_o_marks, .inr (0, [.ref a_o_marks_numbers, .int o_marks_size])), (a_o_marks_numbers, .inl (cI, 18, .inl o_marks_numbers)), (a_o_seen, .inr (0, [.ref a_o_seen_numbers, .int o_seen_size])), (a_o_seen_numbers, .inl (cI, 12, .inl o_seen_numbers)), (a_o_events, .inr (0, [.ref a_o_events_numbers, .int o_events_size])), (a_o_events_numbers, .inl (cI, 24, .inl o_events_numbers)), (a_o_book, .inr (0, [.ref a_o_book_numbers, .int o_book_size])), (a_o_book_numbers, .inl (cI, 24, .inl o_book_numbers)), (a_b, .inr (2, [.ref a_b_triangle, .ref a_b_marks, .ref a_b_seen, .ref a_b_events, .ref a_b_book, .int b_p, .int b_e, .int b_modulus, .int b_windowRow, .int b_windowPlace])), (a_b_marks, .inr (0, [.ref a_b_marks_numbers, .int b_marks_size])), (a_b_marks_numbers, .inl (cI, 18, .inl b_marks_numbers)), (a_b_seen, .inr (0, [.ref a_b_seen_numbers, .int b_seen_size])), (a_b_seen_numbers, .inl (cI, 12, .inl b_seen_numbers)), (a_b_events, .inr (0, [.ref a_b_events_numbers, .int b_events_size])), (a_b_events_numbers, .inl (cI, 24, .inl b_events_numbers)), (a_b_book, .inr (0, [.ref a_b_book_numbers, .int b_book_size])), (a_b_book_numbers, .inl (cI, 24, .inl b_book_numbers))] sz)) (qM none (dC, dI) [(a_o, .inr (2, [.ref a_o_triangle, .ref a_o_marks, .ref a_o_seen, .ref a_o_events, .ref a_o_book, .int r.2.2.2.2.2.2.2.2.1, .int r.2.2.2.2.2.2.2.2.2.1, .int r.2.2.2.2.2.2.2.2.2.2.1, .int r.2.2.2.2.2.2.2.2.2.2.2.1, .int r.2.2.2.2.2.2.2.2.2.2.2.2])), (a_o_marks, .inr (0, [.ref a_o_marks_numbers, .int r.2.1])), (a_o_marks_numbers, .inl (cI, 18, .inl r.1)), (a_o_seen, .inr (0, [.ref a_o_seen_numbers, .int r.2.2.2.1])), (a_o_seen_numbers, .inl (cI, 12, .inl r.2.2.1)), (a_o_events, .inr (0, [.ref a_o_events_numbers, .int r.2.2.2.2.2.1])), (a_o_events_numbers, .inl (cI, 24, .inl r.2.2.2.2.1)), (a_o_book, .inr (0, [.ref a_o_book_numbers, .int r.2.2.2.2.2.2.2.1])), (a_o_book_numbers, .inl (cI, 24, .inl r.2.2.2.2.2.2.1)), (a_b, .inr (2, [.ref a_b_triangle, .ref a_b_marks, .ref a_b_seen, .ref a_b_events, .ref a_b_book, .int b_p, .int b_e, .int b_modulus, .int b_windowRow, .int b_windowPlace])), (a_b_marks, .inr (0, [.ref a_b_marks_numbers, .int b_marks_size])), (a_b_marks_numbers, .inl (cI, 18, .inl b_marks_numbers)), (a_b_seen, .inr (0, [.ref a_b_seen_numbers, .int b_seen_size])), (a_b_seen_numbers, .inl (cI, 12, .inl b_seen_numbers)), (a_b_events, .inr (0, [.ref a_b_events_numbers, .int b_events_size])), (a_b_events_numbers, .inl (cI, 24, .inl b_events_numbers)), (a_b_book, .inr (0, [.ref a_b_book_numbers, .int b_book_size])), (a_b_book_numbers, .inl (cI, 24, .inl b_book_numbers))] (va_A [(a_o, .inr (2, [.ref a_o_triangle, .ref a_o_marks, .ref a_o_seen, .ref a_o_events, .ref a_o_book, .int o_p, .int o_e, .int o_modulus, .int o_windowRow, .int o_windowPlace])), (a_o_marks, .inr (0, [.ref a_o_marks_numbers, .int o_marks_size])), (a_o_marks_numbers, .inl (cI, 18, .inl o_marks_numbers)), (a_o_seen, .inr (0, [.ref a_o_seen_numbers, .int o_seen_size])), (a_o_seen_numbers, .inl (cI, 12, .inl o_seen_numbers)), (a_o_events, .inr (0, [.ref a_o_events_numbers, .int o_events_size])), (a_o_events_numbers, .inl (cI, 24, .inl o_events_numbers)), (a_o_book, .inr (0, [.ref a_o_book_numbers, .int o_book_size])), (a_o_book_numbers, .inl (cI, 24, .inl o_book_numbers)), (a_b, .inr (2, [.ref a_b_triangle, .ref a_b_marks, .ref a_b_seen, .ref a_b_events, .ref a_b_book, .int b_p, .int b_e, .int b_modulus, .int b_windowRow, .int b_windowPlace])), (a_b_marks, .inr (0, [.ref a_b_marks_numbers, .int b_marks_size])), (a_b_marks_numbers, .inl (cI, 18, .inl b_marks_numbers)), (a_b_seen, .inr (0, [.ref a_b_seen_numbers, .int b_seen_size])), (a_b_seen_numbers, .inl (cI, 12, .inl b_seen_numbers)), (a_b_events, .inr (0, [.ref a_b_events_numbers, .int b_events_size])), (a_b_events_numbers, .inl (cI, 24, .inl b_events_numbers)), (a_b_book, .inr (0, [.ref a_b_book_numbers, .int b_book_size])), (a_b_book_numbers, .inl (cI, 24, .inl b_book_numbers))] sz)) 0 0 (va_A [(a_o, .inr (2, [.ref a_o_triangle, .ref a_o_marks, .ref a_o_seen, .ref a_o_events, .ref a_o_book, .int o_p, .int o_e, .int o_modulus, .int o_windowRow, .int o_windowPlace])), (a_o_marks, .inr (0, [.ref a_o_marks_numbers, .int o_marks_size])), (a_o_marks_numbers, .inl (cI, 18, .inl o_marks_numbers)), (a_o_seen, .inr (0, [.ref a_o_seen_numbers, .int o_seen_size])), (a_o_seen_numbers, .inl (cI, 12, .inl o_seen_numbers)), (a_o_events, .inr (0, [.ref a_o_events_numbers, .int o_events_size])), (a_o_events_numbers, .inl (cI, 24, .inl o_events_numbers)), (a_o_book, .inr (0, [.ref a_o_book_numbers, .int o_book_size])), (a_o_book_numbers, .inl (cI, 24, .inl o_book_numbers)), (a_b, .inr (2, [.ref a_b_triangle, .ref a_b_marks, .ref a_b_seen, .ref a_b_events, .ref a_b_book, .int b_p, .int b_e, .int b_modulus, .int b_windowRow, .int b_windowPlace])), (a_b_marks, .inr (0, [.ref a_b_marks_numbers, .int b_marks_size])), (a_b_marks_numbers, .inl (cI, 18, .inl b_marks_numbers)), (a_b_seen, .inr (0, [.ref a_b_seen_numbers, .int b_seen_size])), (a_b_seen_numbers, .inl (cI, 12, .inl b_seen_numbers)), (a_b_events, .inr (0, [.ref a_b_events_numbers, .int b_events_size])), (a_b_events_numbers, .inl (cI, 24, .inl b_events_numbers)), (a_b_book, .inr (0, [.ref a_b_book_numbers, .int b_book_size])), (a_b_book_numbers, .inl (cI, 24, .inl b_book_numbers))] sz) := by
  refine mu_of (cc := cX3_copyFrom) (maxL := 2) (by decide) rfl (Nat.le_of_ble_eq_true rfl) ?_
  intro p e s m args below meth c Q ls A hx hb hml hown hts hE hP hD hA hrt hlocks hret hl
  have hK := hE.1
  have hS : va_S A s.heap s.heap [] := va_S.rf
  have hl : lv_has ls 2 [(0, .ref a_o), (1, .ref a_b)] := hl
  unfold f_X3_copyFrom at hr
  obtain ⟨H, hHe⟩ : ∃ H, H = s.heap := ⟨_, rfl⟩
  obtain ⟨locs, hLe⟩ : ∃ locs : List Loc, locs = [] := ⟨_, rfl⟩
  suffices hgo : va_P (dC, dI) vwCl [(a_o, .inr (2, [.ref a_o_triangle, .ref a_o_marks, .ref a_o_seen, .ref a_o_events, .ref a_o_book, .int o_p, .int o_e, .int o_modulus, .int o_windowRow, .int o_windowPlace])), (a_o_marks, .inr (0, [.ref a_o_marks_numbers, .int o_marks_size])), (a_o_marks_numbers, .inl (cI, 18, .inl o_marks_numbers)), (a_o_seen, .inr (0, [.ref a_o_seen_numbers, .int o_seen_size])), (a_o_seen_numbers, .inl (cI, 12, .inl o_seen_numbers)), (a_o_events, .inr (0, [.ref a_o_events_numbers, .int o_events_size])), (a_o_events_numbers, .inl (cI, 24, .inl o_events_numbers)), (a_o_book, .inr (0, [.ref a_o_book_numbers, .int o_book_size])), (a_o_book_numbers, .inl (cI, 24, .inl o_book_numbers)), (a_b, .inr (2, [.ref a_b_triangle, .ref a_b_marks, .ref a_b_seen, .ref a_b_events, .ref a_b_book, .int b_p, .int b_e, .int b_modulus, .int b_windowRow, .int b_windowPlace])), (a_b_marks, .inr (0, [.ref a_b_marks_numbers, .int b_marks_size])), (a_b_marks_numbers, .inl (cI, 18, .inl b_marks_numbers)), (a_b_seen, .inr (0, [.ref a_b_seen_numbers, .int b_seen_size])), (a_b_seen_numbers, .inl (cI, 12, .inl b_seen_numbers)), (a_b_events, .inr (0, [.ref a_b_events_numbers, .int b_events_size])), (a_b_events_numbers, .inl (cI, 24, .inl b_events_numbers)), (a_b_book, .inr (0, [.ref a_b_book_numbers, .int b_book_size])), (a_b_book_numbers, .inl (cI, 24, .inl b_book_numbers))] H → va_S A s.heap H locs → W p l e rmX3_copyFrom s m args below meth c H locs 0 0 Q (F0 m 0 ls []) by
    subst hHe; subst hLe; exact hgo hP hS
  clear hP hS hHe hLe
  intro hP hS
  have iX1 : ∀ w ∈ wsX10, w ∈ wsX3_copyFrom := memr_ (big := wsX3_copyFrom) wsX10 [40, 41] (by decide +kernel)
  have iX3 : ∀ w ∈ wsX30, w ∈ wsX3_copyFrom := memr_ (big := wsX3_copyFrom) wsX30 [30, 31, 32, 33, 34, 35, 36, 37, 38, 39] (by decide +kernel)
  refine lv_aload_n hx hb dX3_copyFrom_0 rfl (lv_at hl 1 rfl) ?_
  refine lv_ifnonnull (tgt := 5) hx hb dX3_copyFrom_1 (by decide) ?_
  refine lv_aload_n hx hb dX3_copyFrom_5 rfl (lv_at hl 0 rfl) ?_
  refine lv_aload_n hx hb dX3_copyFrom_6 rfl (lv_at hl 1 rfl) ?_
  refine va_get (D := (dC, dI)) (ci := 2) (v := .int b_p) (C := RX3) (T := TX3) (N := 10) hx hb hts iX3 hown hK hP 9 rfl rfl 5 (by decide) (hts (.fieldLink RX3 29 "PascalRows$Setup" "p" "I") (List.mem_of_getElem? (i := 1) rfl)) (fun _ h9 => h9) rfl dX3_copyFrom_7 ?_
  refine lv_aload_n hx hb dX3_copyFrom_10 rfl (lv_at hl 1 rfl) ?_
  refine va_get (D := (dC, dI)) (ci := 2) (v := .int b_e) (C := RX3) (T := TX3) (N := 10) hx hb hts iX3 hown hK hP 9 rfl rfl 6 (by decide) (hts (.fieldLink RX3 33 "PascalRows$Setup" "e" "I") (List.mem_of_getElem? (i := 2) rfl)) (fun _ h9 => h9) rfl dX3_copyFrom_11 ?_
  obtain ⟨u_1, hu_1, hr⟩ := bd_e hr
  refine mu_V ⟨hx, hb, hml, hown, hts⟩ (k_X3_become l dC dI cI cJ a_o a_o_triangle a_o_marks a_o_seen a_o_events a_o_book b_p b_e o_p o_e o_modulus o_windowRow o_windowPlace H.size u_1 hu_1) (cwV 2 hts gX3_copyFrom_X3_become rfl rfl rfl (by decide +kernel) ⟨Nat.le_of_ble_eq_true rfl, Nat.le_of_ble_eq_true rfl⟩) hE 0 rfl rfl rfl rfl hl.1 rfl (Nat.le_of_ble_eq_true rfl) dX3_copyFrom_14 ⟨Nat.zero_le _, Nat.zero_le _⟩ hP (hD.fst rfl) hS hA [0] [1, 2, 3, 4, 5, 6, 7, 8, 9, 10, 11, 12, 13, 14, 15, 16, 17] [17, 0, 1, 2, 3, 4, 5, 6, 7, 8, 9, 10, 11, 12, 13, 14, 15, 16] rfl rfl (by decide) (by decide) rfl (by decide) (W1 := [(a_o, .inr (2, [.ref a_o_triangle, .ref a_o_marks, .ref a_o_seen, .ref a_o_events, .ref a_o_book, .int u_1.1, .int u_1.2.1, .int u_1.2.2, .int o_windowRow, .int o_windowPlace])), (a_o_marks, .inr (0, [.ref a_o_marks_numbers, .int o_marks_size])), (a_o_marks_numbers, .inl (cI, 18, .inl o_marks_numbers)), (a_o_seen, .inr (0, [.ref a_o_seen_numbers, .int o_seen_size])), (a_o_seen_numbers, .inl (cI, 12, .inl o_seen_numbers)), (a_o_events, .inr (0, [.ref a_o_events_numbers, .int o_events_size])), (a_o_events_numbers, .inl (cI, 24, .inl o_events_numbers)), (a_o_book, .inr (0, [.ref a_o_book_numbers, .int o_book_size])), (a_o_book_numbers, .inl (cI, 24, .inl o_book_numbers)), (a_b, .inr (2, [.ref a_b_triangle, .ref a_b_marks, .ref a_b_seen, .ref a_b_events, .ref a_b_book, .int b_p, .int b_e, .int b_modulus, .int b_windowRow, .int b_windowPlace])), (a_b_marks, .inr (0, [.ref a_b_marks_numbers, .int b_marks_size])), (a_b_marks_numbers, .inl (cI, 18, .inl b_marks_numbers)), (a_b_seen, .inr (0, [.ref a_b_seen_numbers, .int b_seen_size])), (a_b_seen_numbers, .inl (cI, 12, .inl b_seen_numbers)), (a_b_events, .inr (0, [.ref a_b_events_numbers, .int b_events_size])), (a_b_events_numbers, .inl (cI, 24, .inl b_events_numbers)), (a_b_book, .inr (0, [.ref a_b_book_numbers, .int b_book_size])), (a_b_book_numbers, .inl (cI, 24, .inl b_book_numbers))]) rfl (fun H locs hP hS => W.eq (g2 := F0 m 17 ls []) rfl ?_)
  refine lv_aload_n hx hb dX3_copyFrom_17 rfl (lv_at hl 0 rfl) ?_
  refine lv_aload_n hx hb dX3_copyFrom_18 rfl (lv_at hl 1 rfl) ?_
  refine va_get (D := (dC, dI)) (ci := 2) (v := .int b_windowRow) (C := RX3) (T := TX3) (N := 10) hx hb hts iX3 hown hK hP 9 rfl rfl 8 (by decide) (hts (.fieldLink RX3 53 "PascalRows$Setup" "windowRow" "I") (List.mem_of_getElem? (i := 3) rfl)) (fun _ h9 => h9) rfl dX3_copyFrom_19 ?_
  refine va_put (D := (dC, dI)) (ci := 2) (v := .int b_windowRow) (ty := .int) (C := RX3) (T := TX3) (N := 10) hx hb hts iX3 tyX3 tyX3_ok nmX3 hown hK hP (hD.fst rfl) hS 0 rfl rfl 8 (by decide) (hts (.fieldLink RX3 53 "PascalRows$Setup" "windowRow" "I") (List.mem_of_getElem? (i := 3) rfl)) (fun _ h9 => h9) rfl (by decide +kernel) rfl rfl (Nat.le_of_ble_eq_true rfl) dX3_copyFrom_22 (fun H locs hP _ hS => ?_)
  have hP : va_P (dC, dI) vwCl [(a_o, .inr (2, [.ref a_o_triangle, .ref a_o_marks, .ref a_o_seen, .ref a_o_events, .ref a_o_book, .int u_1.1, .int u_1.2.1, .int u_1.2.2, .int b_windowRow, .int o_windowPlace])), (a_o_marks, .inr (0, [.ref a_o_marks_numbers, .int o_marks_size])), (a_o_marks_numbers, .inl (cI, 18, .inl o_marks_numbers)), (a_o_seen, .inr (0, [.ref a_o_seen_numbers, .int o_seen_size])), (a_o_seen_numbers, .inl (cI, 12, .inl o_seen_numbers)), (a_o_events, .inr (0, [.ref a_o_events_numbers, .int o_events_size])), (a_o_events_numbers, .inl (cI, 24, .inl o_events_numbers)), (a_o_book, .inr (0, [.ref a_o_book_numbers, .int o_book_size])), (a_o_book_numbers, .inl (cI, 24, .inl o_book_numbers)), (a_b, .inr (2, [.ref a_b_triangle, .ref a_b_marks, .ref a_b_seen, .ref a_b_events, .ref a_b_book, .int b_p, .int b_e, .int b_modulus, .int b_windowRow, .int b_windowPlace])), (a_b_marks, .inr (0, [.ref a_b_marks_numbers, .int b_marks_size])), (a_b_marks_numbers, .inl (cI, 18, .inl b_marks_numbers)), (a_b_seen, .inr (0, [.ref a_b_seen_numbers, .int b_seen_size])), (a_b_seen_numbers, .inl (cI, 12, .inl b_seen_numbers)), (a_b_events, .inr (0, [.ref a_b_events_numbers, .int b_events_size])), (a_b_events_numbers, .inl (cI, 24, .inl b_events_numbers)), (a_b_book, .inr (0, [.ref a_b_book_numbers, .int b_book_size])), (a_b_book_numbers, .inl (cI, 24, .inl b_book_numbers))] H := hP
  refine lv_aload_n hx hb dX3_copyFrom_25 rfl (lv_at hl 0 rfl) ?_
  refine lv_aload_n hx hb dX3_copyFrom_26 rfl (lv_at hl 1 rfl) ?_
  refine va_get (D := (dC, dI)) (ci := 2) (v := .int b_windowPlace) (C := RX3) (T := TX3) (N := 10) hx hb hts iX3 hown hK hP 9 rfl rfl 9 (by decide) (hts (.fieldLink RX3 56 "PascalRows$Setup" "windowPlace" "I") (List.mem_of_getElem? (i := 4) rfl)) (fun _ h9 => h9) rfl dX3_copyFrom_27 ?_
  refine va_put (D := (dC, dI)) (ci := 2) (v := .int b_windowPlace) (ty := .int) (C := RX3) (T := TX3) (N := 10) hx hb hts iX3 tyX3 tyX3_ok nmX3 hown hK hP (hD.fst rfl) hS 0 rfl rfl 9 (by decide) (hts (.fieldLink RX3 56 "PascalRows$Setup" "windowPlace" "I") (List.mem_of_getElem? (i := 4) rfl)) (fun _ h9 => h9) rfl (by decide +kernel) rfl rfl (Nat.le_of_ble_eq_true rfl) dX3_copyFrom_30 (fun H locs hP _ hS => ?_)
  have hP : va_P (dC, dI) vwCl [(a_o, .inr (2, [.ref a_o_triangle, .ref a_o_marks, .ref a_o_seen, .ref a_o_events, .ref a_o_book, .int u_1.1, .int u_1.2.1, .int u_1.2.2, .int b_windowRow, .int b_windowPlace])), (a_o_marks, .inr (0, [.ref a_o_marks_numbers, .int o_marks_size])), (a_o_marks_numbers, .inl (cI, 18, .inl o_marks_numbers)), (a_o_seen, .inr (0, [.ref a_o_seen_numbers, .int o_seen_size])), (a_o_seen_numbers, .inl (cI, 12, .inl o_seen_numbers)), (a_o_events, .inr (0, [.ref a_o_events_numbers, .int o_events_size])), (a_o_events_numbers, .inl (cI, 24, .inl o_events_numbers)), (a_o_book, .inr (0, [.ref a_o_book_numbers, .int o_book_size])), (a_o_book_numbers, .inl (cI, 24, .inl o_book_numbers)), (a_b, .inr (2, [.ref a_b_triangle, .ref a_b_marks, .ref a_b_seen, .ref a_b_events, .ref a_b_book, .int b_p, .int b_e, .int b_modulus, .int b_windowRow, .int b_windowPlace])), (a_b_marks, .inr (0, [.ref a_b_marks_numbers, .int b_marks_size])), (a_b_marks_numbers, .inl (cI, 18, .inl b_marks_numbers)), (a_b_seen, .inr (0, [.ref a_b_seen_numbers, .int b_seen_size])), (a_b_seen_numbers, .inl (cI, 12, .inl b_seen_numbers)), (a_b_events, .inr (0, [.ref a_b_events_numbers, .int b_events_size])), (a_b_events_numbers, .inl (cI, 24, .inl b_events_numbers)), (a_b_book, .inr (0, [.ref a_b_book_numbers, .int b_book_size])), (a_b_book_numbers, .inl (cI, 24, .inl b_book_numbers))] H := hP
  refine lv_aload_n hx hb dX3_copyFrom_33 rfl (lv_at hl 0 rfl) ?_
  refine va_get (D := (dC, dI)) (ci := 2) (v := .ref a_o_marks) (C := RX3) (T := TX3) (N := 10) hx hb hts iX3 hown hK hP 0 rfl rfl 1 (by decide) (hts (.fieldLink RX3 16 "PascalRows$Setup" "marks" "LPascalRows$Lines;") (List.mem_of_getElem? (i := 5) rfl)) (fun _ h9 => h9) rfl dX3_copyFrom_34 ?_
  refine lv_aload_n hx hb dX3_copyFrom_37 rfl (lv_at hl 1 rfl) ?_
  refine va_get (D := (dC, dI)) (ci := 2) (v := .ref a_b_marks) (C := RX3) (T := TX3) (N := 10) hx hb hts iX3 hown hK hP 9 rfl rfl 1 (by decide) (hts (.fieldLink RX3 16 "PascalRows$Setup" "marks" "LPascalRows$Lines;") (List.mem_of_getElem? (i := 5) rfl)) (fun _ h9 => h9) rfl dX3_copyFrom_38 ?_
  obtain ⟨u_2, hu_2, hr⟩ := bd_e hr
  refine mu_V ⟨hx, hb, hml, hown, hts⟩ (k_X1_copyFrom l dC dI cI cJ a_o_marks a_o_marks_numbers a_b_marks a_b_marks_numbers 18 18 o_marks_size o_marks_numbers b_marks_size b_marks_numbers H.size u_2 hu_2) (cwV 1 hts gX3_copyFrom_X1_copyFrom rfl rfl rfl (by decide +kernel) ⟨Nat.le_of_ble_eq_true rfl, Nat.le_of_ble_eq_true rfl⟩) hE 1 rfl rfl rfl rfl hl.1 rfl (Nat.le_of_ble_eq_true rfl) dX3_copyFrom_41 ⟨Nat.zero_le _, Nat.zero_le _⟩ hP (hD.fst rfl) hS hA [1, 2, 10, 11] [0, 3, 4, 5, 6, 7, 8, 9, 12, 13, 14, 15, 16, 17] [0, 14, 15, 1, 2, 3, 4, 5, 6, 7, 16, 17, 8, 9, 10, 11, 12, 13] rfl rfl (by decide) (by decide) rfl (by decide) (W1 := [(a_o, .inr (2, [.ref a_o_triangle, .ref a_o_marks, .ref a_o_seen, .ref a_o_events, .ref a_o_book, .int u_1.1, .int u_1.2.1, .int u_1.2.2, .int b_windowRow, .int b_windowPlace])), (a_o_marks, .inr (0, [.ref a_o_marks_numbers, .int u_2.2])), (a_o_marks_numbers, .inl (cI, 18, .inl u_2.1)), (a_o_seen, .inr (0, [.ref a_o_seen_numbers, .int o_seen_size])), (a_o_seen_numbers, .inl (cI, 12, .inl o_seen_numbers)), (a_o_events, .inr (0, [.ref a_o_events_numbers, .int o_events_size])), (a_o_events_numbers, .inl (cI, 24, .inl o_events_numbers)), (a_o_book, .inr (0, [.ref a_o_book_numbers, .int o_book_size])), (a_o_book_numbers, .inl (cI, 24, .inl o_book_numbers)), (a_b, .inr (2, [.ref a_b_triangle, .ref a_b_marks, .ref a_b_seen, .ref a_b_events, .ref a_b_book, .int b_p, .int b_e, .int b_modulus, .int b_windowRow, .int b_windowPlace])), (a_b_marks, .inr (0, [.ref a_b_marks_numbers, .int b_marks_size])), (a_b_marks_numbers, .inl (cI, 18, .inl b_marks_numbers)), (a_b_seen, .inr (0, [.ref a_b_seen_numbers, .int b_seen_size])), (a_b_seen_numbers, .inl (cI, 12, .inl b_seen_numbers)), (a_b_events, .inr (0, [.ref a_b_events_numbers, .int b_events_size])), (a_b_events_numbers, .inl (cI, 24, .inl b_events_numbers)), (a_b_book, .inr (0, [.ref a_b_book_numbers, .int b_book_size])), (a_b_book_numbers, .inl (cI, 24, .inl b_book_numbers))]) rfl (fun H locs hP hS => W.eq (g2 := F0 m 44 ls []) rfl ?_)
  refine lv_aload_n hx hb dX3_copyFrom_44 rfl (lv_at hl 0 rfl) ?_
  refine va_get (D := (dC, dI)) (ci := 2) (v := .ref a_o_seen) (C := RX3) (T := TX3) (N := 10) hx hb hts iX3 hown hK hP 0 rfl rfl 2 (by decide) (hts (.fieldLink RX3 20 "PascalRows$Setup" "seen" "LPascalRows$Lines;") (List.mem_of_getElem? (i := 6) rfl)) (fun _ h9 => h9) rfl dX3_copyFrom_45 ?_
  refine lv_aload_n hx hb dX3_copyFrom_48 rfl (lv_at hl 1 rfl) ?_
  refine va_get (D := (dC, dI)) (ci := 2) (v := .ref a_b_seen) (C := RX3) (T := TX3) (N := 10) hx hb hts iX3 hown hK hP 9 rfl rfl 2 (by decide) (hts (.fieldLink RX3 20 "PascalRows$Setup" "seen" "LPascalRows$Lines;") (List.mem_of_getElem? (i := 6) rfl)) (fun _ h9 => h9) rfl dX3_copyFrom_49 ?_
  obtain ⟨u_3, hu_3, hr⟩ := bd_e hr
  refine mu_V ⟨hx, hb, hml, hown, hts⟩ (k_X1_copyFrom l dC dI cI cJ a_o_seen a_o_seen_numbers a_b_seen a_b_seen_numbers 12 12 o_seen_size o_seen_numbers b_seen_size b_seen_numbers H.size u_3 hu_3) (cwV 1 hts gX3_copyFrom_X1_copyFrom rfl rfl rfl (by decide +kernel) ⟨Nat.le_of_ble_eq_true rfl, Nat.le_of_ble_eq_true rfl⟩) hE 3 rfl rfl rfl rfl hl.1 rfl (Nat.le_of_ble_eq_true rfl) dX3_copyFrom_52 ⟨Nat.zero_le _, Nat.zero_le _⟩ hP (hD.fst rfl) hS hA [3, 4, 12, 13] [0, 1, 2, 5, 6, 7, 8, 9, 10, 11, 14, 15, 16, 17] [0, 1, 2, 14, 15, 3, 4, 5, 6, 7, 8, 9, 16, 17, 10, 11, 12, 13] rfl rfl (by decide) (by decide) rfl (by decide) (W1 := [(a_o, .inr (2, [.ref a_o_triangle, .ref a_o_marks, .ref a_o_seen, .ref a_o_events, .ref a_o_book, .int u_1.1, .int u_1.2.1, .int u_1.2.2, .int b_windowRow, .int b_windowPlace])), (a_o_marks, .inr (0, [.ref a_o_marks_numbers, .int u_2.2])), (a_o_marks_numbers, .inl (cI, 18, .inl u_2.1)), (a_o_seen, .inr (0, [.ref a_o_seen_numbers, .int u_3.2])), (a_o_seen_numbers, .inl (cI, 12, .inl u_3.1)), (a_o_events, .inr (0, [.ref a_o_events_numbers, .int o_events_size])), (a_o_events_numbers, .inl (cI, 24, .inl o_events_numbers)), (a_o_book, .inr (0, [.ref a_o_book_numbers, .int o_book_size])), (a_o_book_numbers, .inl (cI, 24, .inl o_book_numbers)), (a_b, .inr (2, [.ref a_b_triangle, .ref a_b_marks, .ref a_b_seen, .ref a_b_events, .ref a_b_book, .int b_p, .int b_e, .int b_modulus, .int b_windowRow, .int b_windowPlace])), (a_b_marks, .inr (0, [.ref a_b_marks_numbers, .int b_marks_size])), (a_b_marks_numbers, .inl (cI, 18, .inl b_marks_numbers)), (a_b_seen, .inr (0, [.ref a_b_seen_numbers, .int b_seen_size])), (a_b_seen_numbers, .inl (cI, 12, .inl b_seen_numbers)), (a_b_events, .inr (0, [.ref a_b_events_numbers, .int b_events_size])), (a_b_events_numbers, .inl (cI, 24, .inl b_events_numbers)), (a_b_book, .inr (0, [.ref a_b_book_numbers, .int b_book_size])), (a_b_book_numbers, .inl (cI, 24, .inl b_book_numbers))]) rfl (fun H locs hP hS => W.eq (g2 := F0 m 55 ls []) rfl ?_)
  refine lv_aload_n hx hb dX3_copyFrom_55 rfl (lv_at hl 0 rfl) ?_
  refine va_get (D := (dC, dI)) (ci := 2) (v := .ref a_o_events) (C := RX3) (T := TX3) (N := 10) hx hb hts iX3 hown hK hP 0 rfl rfl 3 (by decide) (hts (.fieldLink RX3 23 "PascalRows$Setup" "events" "LPascalRows$Lines;") (List.mem_of_getElem? (i := 7) rfl)) (fun _ h9 => h9) rfl dX3_copyFrom_56 ?_
  refine lv_aload_n hx hb dX3_copyFrom_59 rfl (lv_at hl 1 rfl) ?_
  refine va_get (D := (dC, dI)) (ci := 2) (v := .ref a_b_events) (C := RX3) (T := TX3) (N := 10) hx hb hts iX3 hown hK hP 9 rfl rfl 3 (by decide) (hts (.fieldLink RX3 23 "PascalRows$Setup" "events" "LPascalRows$Lines;") (List.mem_of_getElem? (i := 7) rfl)) (fun _ h9 => h9) rfl dX3_copyFrom_60 ?_
  obtain ⟨u_4, hu_4, hr⟩ := bd_e hr
  refine mu_V ⟨hx, hb, hml, hown, hts⟩ (k_X1_copyFrom l dC dI cI cJ a_o_events a_o_events_numbers a_b_events a_b_events_numbers 24 24 o_events_size o_events_numbers b_events_size b_events_numbers H.size u_4 hu_4) (cwV 1 hts gX3_copyFrom_X1_copyFrom rfl rfl rfl (by decide +kernel) ⟨Nat.le_of_ble_eq_true rfl, Nat.le_of_ble_eq_true rfl⟩) hE 5 rfl rfl rfl rfl hl.1 rfl (Nat.le_of_ble_eq_true rfl) dX3_copyFrom_63 ⟨Nat.zero_le _, Nat.zero_le _⟩ hP (hD.fst rfl) hS hA [5, 6, 14, 15] [0, 1, 2, 3, 4, 7, 8, 9, 10, 11, 12, 13, 16, 17] [0, 1, 2, 3, 4, 14, 15, 5, 6, 7, 8, 9, 10, 11, 16, 17, 12, 13] rfl rfl (by decide) (by decide) rfl (by decide) (W1 := [(a_o, .inr (2, [.ref a_o_triangle, .ref a_o_marks, .ref a_o_seen, .ref a_o_events, .ref a_o_book, .int u_1.1, .int u_1.2.1, .int u_1.2.2, .int b_windowRow, .int b_windowPlace])), (a_o_marks, .inr (0, [.ref a_o_marks_numbers, .int u_2.2])), (a_o_marks_numbers, .inl (cI, 18, .inl u_2.1)), (a_o_seen, .inr (0, [.ref a_o_seen_numbers, .int u_3.2])), (a_o_seen_numbers, .inl (cI, 12, .inl u_3.1)), (a_o_events, .inr (0, [.ref a_o_events_numbers, .int u_4.2])), (a_o_events_numbers, .inl (cI, 24, .inl u_4.1)), (a_o_book, .inr (0, [.ref a_o_book_numbers, .int o_book_size])), (a_o_book_numbers, .inl (cI, 24, .inl o_book_numbers)), (a_b, .inr (2, [.ref a_b_triangle, .ref a_b_marks, .ref a_b_seen, .ref a_b_events, .ref a_b_book, .int b_p, .int b_e, .int b_modulus, .int b_windowRow, .int b_windowPlace])), (a_b_marks, .inr (0, [.ref a_b_marks_numbers, .int b_marks_size])), (a_b_marks_numbers, .inl (cI, 18, .inl b_marks_numbers)), (a_b_seen, .inr (0, [.ref a_b_seen_numbers, .int b_seen_size])), (a_b_seen_numbers, .inl (cI, 12, .inl b_seen_numbers)), (a_b_events, .inr (0, [.ref a_b_events_numbers, .int b_events_size])), (a_b_events_numbers, .inl (cI, 24, .inl b_events_numbers)), (a_b_book, .inr (0, [.ref a_b_book_numbers, .int b_book_size])), (a_b_book_numbers, .inl (cI, 24, .inl b_book_numbers))]) rfl (fun H locs hP hS => W.eq (g2 := F0 m 66 ls []) rfl ?_)
  refine lv_aload_n hx hb dX3_copyFrom_66 rfl (lv_at hl 0 rfl) ?_
  refine va_get (D := (dC, dI)) (ci := 2) (v := .ref a_o_book) (C := RX3) (T := TX3) (N := 10) hx hb hts iX3 hown hK hP 0 rfl rfl 4 (by decide) (hts (.fieldLink RX3 26 "PascalRows$Setup" "book" "LPascalRows$Lines;") (List.mem_of_getElem? (i := 8) rfl)) (fun _ h9 => h9) rfl dX3_copyFrom_67 ?_
  refine lv_aload_n hx hb dX3_copyFrom_70 rfl (lv_at hl 1 rfl) ?_
  refine va_get (D := (dC, dI)) (ci := 2) (v := .ref a_b_book) (C := RX3) (T := TX3) (N := 10) hx hb hts iX3 hown hK hP 9 rfl rfl 4 (by decide) (hts (.fieldLink RX3 26 "PascalRows$Setup" "book" "LPascalRows$Lines;") (List.mem_of_getElem? (i := 8) rfl)) (fun _ h9 => h9) rfl dX3_copyFrom_71 ?_
  obtain ⟨u_5, hu_5, hr⟩ := bd_e hr
  refine mu_V ⟨hx, hb, hml, hown, hts⟩ (k_X1_copyFrom l dC dI cI cJ a_o_book a_o_book_numbers a_b_book a_b_book_numbers 24 24 o_book_size o_book_numbers b_book_size b_book_numbers H.size u_5 hu_5) (cwV 1 hts gX3_copyFrom_X1_copyFrom rfl rfl rfl (by decide +kernel) ⟨Nat.le_of_ble_eq_true rfl, Nat.le_of_ble_eq_true rfl⟩) hE 7 rfl rfl rfl rfl hl.1 rfl (Nat.le_of_ble_eq_true rfl) dX3_copyFrom_74 ⟨Nat.zero_le _, Nat.zero_le _⟩ hP (hD.fst rfl) hS hA [7, 8, 16, 17] [0, 1, 2, 3, 4, 5, 6, 9, 10, 11, 12, 13, 14, 15] [0, 1, 2, 3, 4, 5, 6, 14, 15, 7, 8, 9, 10, 11, 12, 13, 16, 17] rfl rfl (by decide) (by decide) rfl (by decide) (W1 := [(a_o, .inr (2, [.ref a_o_triangle, .ref a_o_marks, .ref a_o_seen, .ref a_o_events, .ref a_o_book, .int u_1.1, .int u_1.2.1, .int u_1.2.2, .int b_windowRow, .int b_windowPlace])), (a_o_marks, .inr (0, [.ref a_o_marks_numbers, .int u_2.2])), (a_o_marks_numbers, .inl (cI, 18, .inl u_2.1)), (a_o_seen, .inr (0, [.ref a_o_seen_numbers, .int u_3.2])), (a_o_seen_numbers, .inl (cI, 12, .inl u_3.1)), (a_o_events, .inr (0, [.ref a_o_events_numbers, .int u_4.2])), (a_o_events_numbers, .inl (cI, 24, .inl u_4.1)), (a_o_book, .inr (0, [.ref a_o_book_numbers, .int u_5.2])), (a_o_book_numbers, .inl (cI, 24, .inl u_5.1)), (a_b, .inr (2, [.ref a_b_triangle, .ref a_b_marks, .ref a_b_seen, .ref a_b_events, .ref a_b_book, .int b_p, .int b_e, .int b_modulus, .int b_windowRow, .int b_windowPlace])), (a_b_marks, .inr (0, [.ref a_b_marks_numbers, .int b_marks_size])), (a_b_marks_numbers, .inl (cI, 18, .inl b_marks_numbers)), (a_b_seen, .inr (0, [.ref a_b_seen_numbers, .int b_seen_size])), (a_b_seen_numbers, .inl (cI, 12, .inl b_seen_numbers)), (a_b_events, .inr (0, [.ref a_b_events_numbers, .int b_events_size])), (a_b_events_numbers, .inl (cI, 24, .inl b_events_numbers)), (a_b_book, .inr (0, [.ref a_b_book_numbers, .int b_book_size])), (a_b_book_numbers, .inl (cI, 24, .inl b_book_numbers))]) rfl (fun H locs hP hS => W.eq (g2 := F0 m 77 ls []) rfl ?_)
  obtain rfl := Option.some.inj hr
  exact hret H locs _ hP hS (fun Qc free hq hf => W.vret hx hb hrt hq hf dX3_copyFrom_77 hlocks)
/-! X3_nextPrime -/
def rmX3_nextPrime : Room := { frames := 0, cells := 0, slots := 0, locals := 0 }
set_option maxHeartbeats 4000000 in
set_option maxRecDepth 100000 in
theorem k_X3_nextPrime (l : Launch) (dC : Nat → ClassId) (dI : Nat → Nat → Nat) (cI cJ : ClassId) (a_o : Nat) (a_o_triangle : Nat) (a_o_marks : Nat) (a_o_seen : Nat) (a_o_events : Nat) (a_o_book : Nat) (o_p : Int32) (o_e : Int32) (o_modulus : Int32) (o_windowRow : Int32) (o_windowPlace : Int32) (r : Int32) (hr : f_X3_nextPrime o_p = some r) : Met l yX3_nextPrime wsX3_nextPrime rmX3_nextPrime (va_Pc [.ref a_o] (pE (dC, dI) cI cJ [(a_o, .inr (2, [.ref a_o_triangle, .ref a_o_marks, .ref a_o_seen, .ref a_o_events, .ref a_o_book, .int o_p, .int o_e, .int o_modulus, .int o_windowRow, .int o_windowPlace]))])) (rq (.int r)) 0 0 nofree := by
  refine ro_of_i (cc := cX3_nextPrime) (maxL := 1) (by decide) rfl (Nat.le_of_ble_eq_true rfl) ?_
  intro p e s m args below meth c Q ls hx hb hml hown hts hE hP hret hl
  have hK := hE.1
  have hl : lv_has ls 1 [(0, .ref a_o)] := hl
  unfold f_X3_nextPrime at hr
  have iX3 : ∀ w ∈ wsX30, w ∈ wsX3_nextPrime := memr_ (big := wsX3_nextPrime) wsX30 [2, 3, 4, 5, 6, 7, 8, 9, 10, 11] (by decide +kernel)
  refine lv_aload_n hx hb dX3_nextPrime_0 rfl (lv_at hl 0 rfl) ?_
  refine va_get (D := (dC, dI)) (ci := 2) (v := .int o_p) (C := RX3) (T := TX3) (N := 10) hx hb hts iX3 hown hK hP 0 rfl rfl 5 (by decide) (hts (.fieldLink RX3 29 "PascalRows$Setup" "p" "I") (List.mem_of_getElem? (i := 1) rfl)) (fun _ h9 => h9) rfl dX3_nextPrime_1 ?_
  by_cases c_1 : o_p = (2 : Int32)
  · have hr := ite_p hr c_1
    refine W.eq (g2 := F0 m 4 ls (.int (2 : Int32) :: [])) (congrArg (fun z => F0 m 4 ls (.int z :: [])) c_1) ?_
    refine lv_tableIn (tgt := 36) hx hb dX3_nextPrime_4 (by decide) (by decide) (by first | rfl | decide) (by decide) ?_
    refine lv_iconst (v := (3 : Int32)) hx hb dX3_nextPrime_36 (by decide) ?_
    exact hret 37 ls _ dX3_nextPrime_37 (Option.some.inj hr)
  have hr := ite_n hr c_1
  by_cases c_2 : o_p = (3 : Int32)
  · have hr := ite_p hr c_2
    refine W.eq (g2 := F0 m 4 ls (.int (3 : Int32) :: [])) (congrArg (fun z => F0 m 4 ls (.int z :: [])) c_2) ?_
    refine lv_tableIn (tgt := 38) hx hb dX3_nextPrime_4 (by decide) (by decide) (by first | rfl | decide) (by decide) ?_
    refine lv_iconst (v := (5 : Int32)) hx hb dX3_nextPrime_38 (by decide) ?_
    exact hret 39 ls _ dX3_nextPrime_39 (Option.some.inj hr)
  have hr := ite_n hr c_2
  by_cases c_3 : o_p = (4 : Int32)
  · have hr := ite_p hr c_3
    refine W.eq (g2 := F0 m 4 ls (.int (4 : Int32) :: [])) (congrArg (fun z => F0 m 4 ls (.int z :: [])) c_3) ?_
    refine lv_tableIn (tgt := 43) hx hb dX3_nextPrime_4 (by decide) (by decide) (by first | rfl | decide) (by decide) ?_
    refine lv_iconst (v := (2 : Int32)) hx hb dX3_nextPrime_43 (by decide) ?_
    exact hret 44 ls _ dX3_nextPrime_44 (Option.some.inj hr)
  have hr := ite_n hr c_3
  by_cases c_4 : o_p = (5 : Int32)
  · have hr := ite_p hr c_4
    refine W.eq (g2 := F0 m 4 ls (.int (5 : Int32) :: [])) (congrArg (fun z => F0 m 4 ls (.int z :: [])) c_4) ?_
    refine lv_tableIn (tgt := 40) hx hb dX3_nextPrime_4 (by decide) (by decide) (by first | rfl | decide) (by decide) ?_
    refine lv_bipush (v := (7 : Int32)) hx hb dX3_nextPrime_40 (by decide) ?_
    exact hret 42 ls _ dX3_nextPrime_42 (Option.some.inj hr)
  have hr := ite_n hr c_4
  refine lv_tableOut (tgt := 43) hx hb dX3_nextPrime_4 (tbl_out (fun k h1 h2 => ?_)) (by decide) ?_
  · rcases (show k = 2 ∨ k = 3 ∨ k = 4 ∨ k = 5 by omega) with rfl | rfl | rfl | rfl
    · exact i32_ne c_1 rfl
    · exact i32_ne c_2 rfl
    · exact i32_ne c_3 rfl
    · exact i32_ne c_4 rfl
  refine lv_iconst (v := (2 : Int32)) hx hb dX3_nextPrime_43 (by decide) ?_
  exact hret 44 ls _ dX3_nextPrime_44 (Option.some.inj hr)
/-! X3_happen -/
def rmX3_happen : Room := { frames := 2, cells := 0, slots := 0, locals := 83 }
set_option maxHeartbeats 4000000 in
set_option maxRecDepth 100000 in
theorem k_X3_happen (l : Launch) (dC : Nat → ClassId) (dI : Nat → Nat → Nat) (cI cJ : ClassId) (a_o : Nat) (a_o_triangle : Nat) (a_o_marks : Nat) (a_o_seen : Nat) (a_o_events : Nat) (a_o_book : Nat) (a_o_marks_numbers : Nat) (p0 : Int32) (p1 : Int32) (o_p : Int32) (o_e : Int32) (o_modulus : Int32) (o_windowRow : Int32) (o_windowPlace : Int32) (o_marks_size : Int32) (o_marks_numbers : Nat → Int32) (sz : Nat) (r : (Nat → Int32) × Int32 × Int32 × Int32 × Int32 × Int32) (hr : f_X3_happen p0 p1 o_marks_numbers o_marks_size o_p o_e o_modulus o_windowRow = some r) : Met l yX3_happen wsX3_happen rmX3_happen (va_Pc [.ref a_o, .int p0, .int p1] (pM (dC, dI) cI cJ [(a_o, .inr (2, [.ref a_o_triangle, .ref a_o_marks, .ref a_o_seen, .ref a_o_events, .ref a_o_book, .int o_p, .int o_e, .int o_modulus, .int o_windowRow, .int o_windowPlace])), (a_o_marks, .inr (0, [.ref a_o_marks_numbers, .int o_marks_size])), (a_o_marks_numbers, .inl (cI, 18, .inl o_marks_numbers))] sz)) (qM none (dC, dI) [(a_o, .inr (2, [.ref a_o_triangle, .ref a_o_marks, .ref a_o_seen, .ref a_o_events, .ref a_o_book, .int r.2.2.1, .int r.2.2.2.1, .int r.2.2.2.2.1, .int r.2.2.2.2.2, .int o_windowPlace])), (a_o_marks, .inr (0, [.ref a_o_marks_numbers, .int r.2.1])), (a_o_marks_numbers, .inl (cI, 18, .inl r.1))] (va_A [(a_o, .inr (2, [.ref a_o_triangle, .ref a_o_marks, .ref a_o_seen, .ref a_o_events, .ref a_o_book, .int o_p, .int o_e, .int o_modulus, .int o_windowRow, .int o_windowPlace])), (a_o_marks, .inr (0, [.ref a_o_marks_numbers, .int o_marks_size])), (a_o_marks_numbers, .inl (cI, 18, .inl o_marks_numbers))] sz)) 0 0 (va_A [(a_o, .inr (2, [.ref a_o_triangle, .ref a_o_marks, .ref a_o_seen, .ref a_o_events, .ref a_o_book, .int o_p, .int o_e, .int o_modulus, .int o_windowRow, .int o_windowPlace])), (a_o_marks, .inr (0, [.ref a_o_marks_numbers, .int o_marks_size])), (a_o_marks_numbers, .inl (cI, 18, .inl o_marks_numbers))] sz) := by
  refine mu_of (cc := cX3_happen) (maxL := 3) (by decide) rfl (Nat.le_of_ble_eq_true rfl) ?_
  intro p e s m args below meth c Q ls A hx hb hml hown hts hE hP hD hA hrt hlocks hret hl
  have hK := hE.1
  have hS : va_S A s.heap s.heap [] := va_S.rf
  have hl : lv_has ls 3 [(0, .ref a_o), (1, .int p0), (2, .int p1)] := hl
  unfold f_X3_happen at hr
  obtain ⟨H, hHe⟩ : ∃ H, H = s.heap := ⟨_, rfl⟩
  obtain ⟨locs, hLe⟩ : ∃ locs : List Loc, locs = [] := ⟨_, rfl⟩
  suffices hgo : va_P (dC, dI) vwCl [(a_o, .inr (2, [.ref a_o_triangle, .ref a_o_marks, .ref a_o_seen, .ref a_o_events, .ref a_o_book, .int o_p, .int o_e, .int o_modulus, .int o_windowRow, .int o_windowPlace])), (a_o_marks, .inr (0, [.ref a_o_marks_numbers, .int o_marks_size])), (a_o_marks_numbers, .inl (cI, 18, .inl o_marks_numbers))] H → va_S A s.heap H locs → W p l e rmX3_happen s m args below meth c H locs 0 0 Q (F0 m 0 ls []) by
    subst hHe; subst hLe; exact hgo hP hS
  clear hP hS hHe hLe
  intro hP hS
  have iX1 : ∀ w ∈ wsX10, w ∈ wsX3_happen := memr_ (big := wsX3_happen) wsX10 [47, 48] (by decide +kernel)
  have iX3 : ∀ w ∈ wsX30, w ∈ wsX3_happen := memr_ (big := wsX3_happen) wsX30 [37, 38, 39, 40, 41, 42, 43, 44, 45, 46] (by decide +kernel)
  refine lv_iload_n hx hb dX3_happen_0 rfl (lv_at hl 1 rfl) ?_
  by_cases c_1 : p0 = (0 : Int32)
  · have hr := ite_p hr c_1
    refine W.eq (g2 := F0 m 1 ls (.int (0 : Int32) :: [])) (congrArg (fun z => F0 m 1 ls (.int z :: [])) c_1) ?_
    refine lv_tableIn (tgt := 28) hx hb dX3_happen_1 (by decide) (by decide) (by first | rfl | decide) (by decide) ?_
    refine lv_aload_n hx hb dX3_happen_28 rfl (lv_at hl 0 rfl) ?_
    refine lv_aload_n hx hb dX3_happen_29 rfl (lv_at hl 0 rfl) ?_
    obtain ⟨u_2, hu_2, hr⟩ := bd_e hr
    refine ro_V ⟨hx, hb, hml, hown, hts⟩ (k_X3_nextPrime l dC dI cI cJ a_o a_o_triangle a_o_marks a_o_seen a_o_events a_o_book o_p o_e o_modulus o_windowRow o_windowPlace u_2 hu_2) (cwV 0 hts gX3_happen_X3_nextPrime rfl rfl rfl (by decide +kernel) ⟨Nat.le_of_ble_eq_true rfl, Nat.le_of_ble_eq_true rfl⟩) hE hP 0 rfl rfl rfl (hP.sub [0] rfl) rfl hl.1 rfl (Nat.le_of_ble_eq_true rfl) dX3_happen_30 ⟨Nat.zero_le _, Nat.zero_le _⟩ ?_
    refine lv_aload_n hx hb dX3_happen_33 rfl (lv_at hl 0 rfl) ?_
    refine va_get (D := (dC, dI)) (ci := 2) (v := .int o_e) (C := RX3) (T := TX3) (N := 10) hx hb hts iX3 hown hK hP 0 rfl rfl 6 (by decide) (hts (.fieldLink RX3 33 "PascalRows$Setup" "e" "I") (List.mem_of_getElem? (i := 1) rfl)) (fun _ h9 => h9) rfl dX3_happen_34 ?_
    obtain ⟨u_3, hu_3, hr⟩ := bd_e hr
    refine mu_V ⟨hx, hb, hml, hown, hts⟩ (k_X3_become l dC dI cI cJ a_o a_o_triangle a_o_marks a_o_seen a_o_events a_o_book u_2 o_e o_p o_e o_modulus o_windowRow o_windowPlace H.size u_3 hu_3) (cwV 2 hts gX3_happen_X3_become rfl rfl rfl (by decide +kernel) ⟨Nat.le_of_ble_eq_true rfl, Nat.le_of_ble_eq_true rfl⟩) hE 0 rfl rfl rfl rfl hl.1 rfl (Nat.le_of_ble_eq_true rfl) dX3_happen_37 ⟨Nat.zero_le _, Nat.zero_le _⟩ hP (hD.fst rfl) hS hA [0] [1, 2] [2, 0, 1] rfl rfl (by decide) (by decide) rfl (by decide) (W1 := [(a_o, .inr (2, [.ref a_o_triangle, .ref a_o_marks, .ref a_o_seen, .ref a_o_events, .ref a_o_book, .int u_3.1, .int u_3.2.1, .int u_3.2.2, .int o_windowRow, .int o_windowPlace])), (a_o_marks, .inr (0, [.ref a_o_marks_numbers, .int o_marks_size])), (a_o_marks_numbers, .inl (cI, 18, .inl o_marks_numbers))]) rfl (fun H locs hP hS => W.eq (g2 := F0 m 40 ls []) rfl ?_)
    refine lv_goto (tgt := 81) hx hb dX3_happen_40 (by decide) ?_
    obtain rfl := Option.some.inj hr
    exact hret H locs _ hP hS (fun Qc free hq hf => W.vret hx hb hrt hq hf dX3_happen_81 hlocks)
  have hr := ite_n hr c_1
  by_cases c_4 : p0 = (1 : Int32)
  · have hr := ite_p hr c_4
    refine W.eq (g2 := F0 m 1 ls (.int (1 : Int32) :: [])) (congrArg (fun z => F0 m 1 ls (.int z :: [])) c_4) ?_
    refine lv_tableIn (tgt := 43) hx hb dX3_happen_1 (by decide) (by decide) (by first | rfl | decide) (by decide) ?_
    refine lv_aload_n hx hb dX3_happen_43 rfl (lv_at hl 0 rfl) ?_
    refine lv_aload_n hx hb dX3_happen_44 rfl (lv_at hl 0 rfl) ?_
    refine va_get (D := (dC, dI)) (ci := 2) (v := .int o_p) (C := RX3) (T := TX3) (N := 10) hx hb hts iX3 hown hK hP 0 rfl rfl 5 (by decide) (hts (.fieldLink RX3 29 "PascalRows$Setup" "p" "I") (List.mem_of_getElem? (i := 2) rfl)) (fun _ h9 => h9) rfl dX3_happen_45 ?_
    refine lv_iload_n hx hb dX3_happen_48 rfl (lv_at hl 2 rfl) ?_
    obtain ⟨u_5, hu_5, hr⟩ := bd_e hr
    refine mu_V ⟨hx, hb, hml, hown, hts⟩ (k_X3_become l dC dI cI cJ a_o a_o_triangle a_o_marks a_o_seen a_o_events a_o_book o_p p1 o_p o_e o_modulus o_windowRow o_windowPlace H.size u_5 hu_5) (cwV 2 hts gX3_happen_X3_become rfl rfl rfl (by decide +kernel) ⟨Nat.le_of_ble_eq_true rfl, Nat.le_of_ble_eq_true rfl⟩) hE 0 rfl rfl rfl rfl hl.1 rfl (Nat.le_of_ble_eq_true rfl) dX3_happen_49 ⟨Nat.zero_le _, Nat.zero_le _⟩ hP (hD.fst rfl) hS hA [0] [1, 2] [2, 0, 1] rfl rfl (by decide) (by decide) rfl (by decide) (W1 := [(a_o, .inr (2, [.ref a_o_triangle, .ref a_o_marks, .ref a_o_seen, .ref a_o_events, .ref a_o_book, .int u_5.1, .int u_5.2.1, .int u_5.2.2, .int o_windowRow, .int o_windowPlace])), (a_o_marks, .inr (0, [.ref a_o_marks_numbers, .int o_marks_size])), (a_o_marks_numbers, .inl (cI, 18, .inl o_marks_numbers))]) rfl (fun H locs hP hS => W.eq (g2 := F0 m 52 ls []) rfl ?_)
    refine lv_goto (tgt := 81) hx hb dX3_happen_52 (by decide) ?_
    obtain rfl := Option.some.inj hr
    exact hret H locs _ hP hS (fun Qc free hq hf => W.vret hx hb hrt hq hf dX3_happen_81 hlocks)
  have hr := ite_n hr c_4
  by_cases c_6 : p0 = (2 : Int32)
  · have hr := ite_p hr c_6
    refine W.eq (g2 := F0 m 1 ls (.int (2 : Int32) :: [])) (congrArg (fun z => F0 m 1 ls (.int z :: [])) c_6) ?_
    refine lv_tableIn (tgt := 55) hx hb dX3_happen_1 (by decide) (by decide) (by first | rfl | decide) (by decide) ?_
    refine lv_aload_n hx hb dX3_happen_55 rfl (lv_at hl 0 rfl) ?_
    refine lv_bipush (v := (127 : Int32)) hx hb dX3_happen_56 (by decide) ?_
    refine lv_aload_n hx hb dX3_happen_58 rfl (lv_at hl 0 rfl) ?_
    refine va_get (D := (dC, dI)) (ci := 2) (v := .int o_windowRow) (C := RX3) (T := TX3) (N := 10) hx hb hts iX3 hown hK hP 0 rfl rfl 8 (by decide) (hts (.fieldLink RX3 53 "PascalRows$Setup" "windowRow" "I") (List.mem_of_getElem? (i := 3) rfl)) (fun _ h9 => h9) rfl dX3_happen_59 ?_
    refine lv_iload_n hx hb dX3_happen_62 rfl (lv_at hl 2 rfl) ?_
    refine lv_iadd hx hb dX3_happen_63 ?_
    refine va_mmin hx hb (hml.trans hl.1.symm) hown (hts (.methodLink RX3 67 Lib.Math.min.name) (List.mem_of_getElem? (i := 4) rfl)) (hts (.static Lib.Math.min.name) (List.mem_of_getElem? (i := 5) rfl)) (hts (.initialized "java/lang/Math") (List.mem_of_getElem? (i := 6) rfl)) (hts (.code Lib.Math.min.name Lib.Math.min.code 2 (some .int)) (List.mem_of_getElem? (i := 7) rfl)) (Nat.le_of_ble_eq_true rfl) (Nat.le_of_ble_eq_true rfl) (Nat.zero_le _) (Nat.zero_le _) dX3_happen_64 ?_
    refine va_put (D := (dC, dI)) (ci := 2) (v := .int (if (o_windowRow + p1) < (127 : Int32) then (o_windowRow + p1) else (127 : Int32))) (ty := .int) (C := RX3) (T := TX3) (N := 10) hx hb hts iX3 tyX3 tyX3_ok nmX3 hown hK hP (hD.fst rfl) hS 0 rfl rfl 8 (by decide) (hts (.fieldLink RX3 53 "PascalRows$Setup" "windowRow" "I") (List.mem_of_getElem? (i := 3) rfl)) (fun _ h9 => h9) rfl (by decide +kernel) rfl rfl (Nat.le_of_ble_eq_true rfl) dX3_happen_67 (fun H locs hP _ hS => ?_)
    have hP : va_P (dC, dI) vwCl [(a_o, .inr (2, [.ref a_o_triangle, .ref a_o_marks, .ref a_o_seen, .ref a_o_events, .ref a_o_book, .int o_p, .int o_e, .int o_modulus, .int (if (o_windowRow + p1) < (127 : Int32) then (o_windowRow + p1) else (127 : Int32)), .int o_windowPlace])), (a_o_marks, .inr (0, [.ref a_o_marks_numbers, .int o_marks_size])), (a_o_marks_numbers, .inl (cI, 18, .inl o_marks_numbers))] H := hP
    refine lv_goto (tgt := 81) hx hb dX3_happen_70 (by decide) ?_
    obtain rfl := Option.some.inj hr
    exact hret H locs _ hP hS (fun Qc free hq hf => W.vret hx hb hrt hq hf dX3_happen_81 hlocks)
  have hr := ite_n hr c_6
  refine lv_tableOut (tgt := 73) hx hb dX3_happen_1 (tbl_out (fun k h1 h2 => ?_)) (by decide) ?_
  · rcases (show k = 0 ∨ k = 1 ∨ k = 2 by omega) with rfl | rfl | rfl
    · exact i32_ne c_1 rfl
    · exact i32_ne c_4 rfl
    · exact i32_ne c_6 rfl
  refine lv_aload_n hx hb dX3_happen_73 rfl (lv_at hl 0 rfl) ?_
  refine va_get (D := (dC, dI)) (ci := 2) (v := .ref a_o_marks) (C := RX3) (T := TX3) (N := 10) hx hb hts iX3 hown hK hP 0 rfl rfl 1 (by decide) (hts (.fieldLink RX3 16 "PascalRows$Setup" "marks" "LPascalRows$Lines;") (List.mem_of_getElem? (i := 8) rfl)) (fun _ h9 => h9) rfl dX3_happen_74 ?_
  refine lv_iload_n hx hb dX3_happen_77 rfl (lv_at hl 2 rfl) ?_
  obtain ⟨u_7, hu_7, hr⟩ := bd_e hr
  refine mu_V ⟨hx, hb, hml, hown, hts⟩ (k_X1_remove l dC dI cI cJ a_o_marks a_o_marks_numbers p1 18 o_marks_size o_marks_numbers H.size u_7 hu_7) (cwV 1 hts gX3_happen_X1_remove rfl rfl rfl (by decide +kernel) ⟨Nat.le_of_ble_eq_true rfl, Nat.le_of_ble_eq_true rfl⟩) hE 1 rfl rfl rfl rfl hl.1 rfl (Nat.le_of_ble_eq_true rfl) dX3_happen_78 ⟨Nat.zero_le _, Nat.zero_le _⟩ hP (hD.fst rfl) hS hA [1, 2] [0] [0, 1, 2] rfl rfl (by decide) (by decide) rfl (by decide) (W1 := [(a_o, .inr (2, [.ref a_o_triangle, .ref a_o_marks, .ref a_o_seen, .ref a_o_events, .ref a_o_book, .int o_p, .int o_e, .int o_modulus, .int o_windowRow, .int o_windowPlace])), (a_o_marks, .inr (0, [.ref a_o_marks_numbers, .int u_7.2])), (a_o_marks_numbers, .inl (cI, 18, .inl u_7.1))]) rfl (fun H locs hP hS => W.eq (g2 := F0 m 81 ls []) rfl ?_)
  obtain rfl := Option.some.inj hr
  exact hret H locs _ hP hS (fun Qc free hq hf => W.vret hx hb hrt hq hf dX3_happen_81 hlocks)
/-! X3_remainder -/
def rmX3_remainder : Room := { frames := 2, cells := 0, slots := 0, locals := 47 }
set_option maxHeartbeats 4000000 in
set_option maxRecDepth 100000 in
theorem k_X3_remainder (l : Launch) (dC : Nat → ClassId) (dI : Nat → Nat → Nat) (cI cJ : ClassId) (a_o : Nat) (a_o_triangle : Nat) (a_o_marks : Nat) (a_o_seen : Nat) (a_o_events : Nat) (a_o_book : Nat) (a_o_triangle_halves : Nat) (p0 : Int32) (p1 : Int32) (o_p : Int32) (o_e : Int32) (o_modulus : Int32) (o_windowRow : Int32) (o_windowPlace : Int32) (o_triangle_halves : Nat → Int32) (r : Int32) (hr : f_X3_remainder p0 p1 o_triangle_halves o_modulus = some r) : Met l yX3_remainder wsX3_remainder rmX3_remainder (va_Pc [.ref a_o, .int p0, .int p1] (pE (dC, dI) cI cJ [(a_o, .inr (2, [.ref a_o_triangle, .ref a_o_marks, .ref a_o_seen, .ref a_o_events, .ref a_o_book, .int o_p, .int o_e, .int o_modulus, .int o_windowRow, .int o_windowPlace])), (a_o_triangle, .inr (4, [.ref a_o_triangle_halves])), (a_o_triangle_halves, .inl (cI, 4160, .inl o_triangle_halves))])) (rq (.int r)) 0 0 nofree := by
  refine ro_of_i (cc := cX3_remainder) (maxL := 3) (by decide) rfl (Nat.le_of_ble_eq_true rfl) ?_
  intro p e s m args below meth c Q ls hx hb hml hown hts hE hP hret hl
  have hK := hE.1
  have hl : lv_has ls 3 [(0, .ref a_o), (1, .int p0), (2, .int p1)] := hl
  unfold f_X3_remainder at hr
  have iX3 : ∀ w ∈ wsX30, w ∈ wsX3_remainder := memr_ (big := wsX3_remainder) wsX30 [13, 14, 15, 16, 17, 18, 19, 20, 21, 22] (by decide +kernel)
  have iX5 : ∀ w ∈ wsX50, w ∈ wsX3_remainder := memr_ (big := wsX3_remainder) wsX50 [23] (by decide +kernel)
  refine lv_aload_n hx hb dX3_remainder_0 rfl (lv_at hl 0 rfl) ?_
  refine va_get (D := (dC, dI)) (ci := 2) (v := .ref a_o_triangle) (C := RX3) (T := TX3) (N := 10) hx hb hts iX3 hown hK hP 0 rfl rfl 0 (by decide) (hts (.fieldLink RX3 39 "PascalRows$Setup" "triangle" "LPascalRows$Triangle;") (List.mem_of_getElem? (i := 1) rfl)) (fun _ h9 => h9) rfl dX3_remainder_1 ?_
  refine lv_ifnonnull (tgt := 11) hx hb dX3_remainder_4 (by decide) ?_
  refine lv_aload_n hx hb dX3_remainder_11 rfl (lv_at hl 0 rfl) ?_
  refine va_get (D := (dC, dI)) (ci := 2) (v := .ref a_o_triangle) (C := RX3) (T := TX3) (N := 10) hx hb hts iX3 hown hK hP 0 rfl rfl 0 (by decide) (hts (.fieldLink RX3 39 "PascalRows$Setup" "triangle" "LPascalRows$Triangle;") (List.mem_of_getElem? (i := 1) rfl)) (fun _ h9 => h9) rfl dX3_remainder_12 ?_
  refine lv_iload_n hx hb dX3_remainder_15 rfl (lv_at hl 1 rfl) ?_
  refine lv_iload_n hx hb dX3_remainder_16 rfl (lv_at hl 2 rfl) ?_
  refine lv_aload_n hx hb dX3_remainder_17 rfl (lv_at hl 0 rfl) ?_
  refine va_get (D := (dC, dI)) (ci := 2) (v := .int o_modulus) (C := RX3) (T := TX3) (N := 10) hx hb hts iX3 hown hK hP 0 rfl rfl 7 (by decide) (hts (.fieldLink RX3 36 "PascalRows$Setup" "modulus" "I") (List.mem_of_getElem? (i := 2) rfl)) (fun _ h9 => h9) rfl dX3_remainder_18 ?_
  obtain ⟨u_1, hu_1, hr⟩ := bd_e hr
  refine ro_V ⟨hx, hb, hml, hown, hts⟩ (k_X5_remainder l dC dI cI cJ a_o_triangle a_o_triangle_halves p0 p1 o_modulus o_triangle_halves u_1 hu_1) (cwV 3 hts gX3_remainder_X5_remainder rfl rfl rfl (by decide +kernel) ⟨Nat.le_of_ble_eq_true rfl, Nat.le_of_ble_eq_true rfl⟩) hE hP 1 rfl rfl rfl (hP.sub [1, 2] rfl) rfl hl.1 rfl (Nat.le_of_ble_eq_true rfl) dX3_remainder_21 ⟨Nat.zero_le _, Nat.zero_le _⟩ ?_
  exact hret 24 ls _ dX3_remainder_24 (Option.some.inj hr)
/-! X3_tell -/
def rmX3_tell : Room := { frames := 2, cells := 0, slots := 0, locals := 51 }
set_option maxHeartbeats 4000000 in
set_option maxRecDepth 100000 in
theorem k_X3_tell (l : Launch) (dC : Nat → ClassId) (dI : Nat → Nat → Nat) (cI cJ : ClassId) (a_o : Nat) (a_o_triangle : Nat) (a_o_marks : Nat) (a_o_seen : Nat) (a_o_events : Nat) (a_o_book : Nat) (a_o_triangle_halves : Nat) (p0 : Int32) (p1 : Int32) (p2 : Int32) (o_p : Int32) (o_e : Int32) (o_modulus : Int32) (o_windowRow : Int32) (o_windowPlace : Int32) (o_triangle_halves : Nat → Int32) (r : Int32) (hr : f_X3_tell p0 p1 p2 o_triangle_halves o_p o_modulus = some r) : Met l yX3_tell wsX3_tell rmX3_tell (va_Pc [.ref a_o, .int p0, .int p1, .int p2] (pE (dC, dI) cI cJ [(a_o, .inr (2, [.ref a_o_triangle, .ref a_o_marks, .ref a_o_seen, .ref a_o_events, .ref a_o_book, .int o_p, .int o_e, .int o_modulus, .int o_windowRow, .int o_windowPlace])), (a_o_triangle, .inr (4, [.ref a_o_triangle_halves])), (a_o_triangle_halves, .inl (cI, 4160, .inl o_triangle_halves))])) (rq (.int r)) 0 0 nofree := by
  refine ro_of_i (cc := cX3_tell) (maxL := 4) (by decide) rfl (Nat.le_of_ble_eq_true rfl) ?_
  intro p e s m args below meth c Q ls hx hb hml hown hts hE hP hret hl
  have hK := hE.1
  have hl : lv_has ls 4 [(0, .ref a_o), (1, .int p0), (2, .int p1), (3, .int p2)] := hl
  unfold f_X3_tell at hr
  have iX3 : ∀ w ∈ wsX30, w ∈ wsX3_tell := memr_ (big := wsX3_tell) wsX30 [28, 29, 30, 31, 32, 33, 34, 35, 36, 37] (by decide +kernel)
  have iX5 : ∀ w ∈ wsX50, w ∈ wsX3_tell := memr_ (big := wsX3_tell) wsX50 [38] (by decide +kernel)
  refine lv_aload_n hx hb dX3_tell_0 rfl (lv_at hl 0 rfl) ?_
  refine va_get (D := (dC, dI)) (ci := 2) (v := .ref a_o_triangle) (C := RX3) (T := TX3) (N := 10) hx hb hts iX3 hown hK hP 0 rfl rfl 0 (by decide) (hts (.fieldLink RX3 39 "PascalRows$Setup" "triangle" "LPascalRows$Triangle;") (List.mem_of_getElem? (i := 1) rfl)) (fun _ h9 => h9) rfl dX3_tell_1 ?_
  refine lv_ifnonnull (tgt := 9) hx hb dX3_tell_4 (by decide) ?_
  refine lv_iload_n hx hb dX3_tell_9 rfl (lv_at hl 1 rfl) ?_
  by_cases c_1 : p0 = (0 : Int32)
  · have hr := ite_p hr c_1
    refine W.eq (g2 := F0 m 10 ls (.int (0 : Int32) :: [])) (congrArg (fun z => F0 m 10 ls (.int z :: [])) c_1) ?_
    refine lv_tableIn (tgt := 40) hx hb dX3_tell_10 (by decide) (by decide) (by first | rfl | decide) (by decide) ?_
    refine lv_aload_n hx hb dX3_tell_40 rfl (lv_at hl 0 rfl) ?_
    refine va_get (D := (dC, dI)) (ci := 2) (v := .ref a_o_triangle) (C := RX3) (T := TX3) (N := 10) hx hb hts iX3 hown hK hP 0 rfl rfl 0 (by decide) (hts (.fieldLink RX3 39 "PascalRows$Setup" "triangle" "LPascalRows$Triangle;") (List.mem_of_getElem? (i := 1) rfl)) (fun _ h9 => h9) rfl dX3_tell_41 ?_
    refine lv_iload_n hx hb dX3_tell_44 rfl (lv_at hl 2 rfl) ?_
    refine lv_iload_n hx hb dX3_tell_45 rfl (lv_at hl 3 rfl) ?_
    refine lv_aload_n hx hb dX3_tell_46 rfl (lv_at hl 0 rfl) ?_
    refine va_get (D := (dC, dI)) (ci := 2) (v := .int o_modulus) (C := RX3) (T := TX3) (N := 10) hx hb hts iX3 hown hK hP 0 rfl rfl 7 (by decide) (hts (.fieldLink RX3 36 "PascalRows$Setup" "modulus" "I") (List.mem_of_getElem? (i := 2) rfl)) (fun _ h9 => h9) rfl dX3_tell_47 ?_
    obtain ⟨u_2, hu_2, hr⟩ := bd_e hr
    refine ro_V ⟨hx, hb, hml, hown, hts⟩ (k_X5_remainder l dC dI cI cJ a_o_triangle a_o_triangle_halves p1 p2 o_modulus o_triangle_halves u_2 hu_2) (cwV 3 hts gX3_tell_X5_remainder rfl rfl rfl (by decide +kernel) ⟨Nat.le_of_ble_eq_true rfl, Nat.le_of_ble_eq_true rfl⟩) hE hP 1 rfl rfl rfl (hP.sub [1, 2] rfl) rfl hl.1 rfl (Nat.le_of_ble_eq_true rfl) dX3_tell_50 ⟨Nat.zero_le _, Nat.zero_le _⟩ ?_
    exact hret 53 ls _ dX3_tell_53 (Option.some.inj hr)
  have hr := ite_n hr c_1
  by_cases c_3 : p0 = (1 : Int32)
  · have hr := ite_p hr c_3
    refine W.eq (g2 := F0 m 10 ls (.int (1 : Int32) :: [])) (congrArg (fun z => F0 m 10 ls (.int z :: [])) c_3) ?_
    refine lv_tableIn (tgt := 54) hx hb dX3_tell_10 (by decide) (by decide) (by first | rfl | decide) (by decide) ?_
    refine lv_aload_n hx hb dX3_tell_54 rfl (lv_at hl 0 rfl) ?_
    refine va_get (D := (dC, dI)) (ci := 2) (v := .ref a_o_triangle) (C := RX3) (T := TX3) (N := 10) hx hb hts iX3 hown hK hP 0 rfl rfl 0 (by decide) (hts (.fieldLink RX3 39 "PascalRows$Setup" "triangle" "LPascalRows$Triangle;") (List.mem_of_getElem? (i := 1) rfl)) (fun _ h9 => h9) rfl dX3_tell_55 ?_
    refine lv_aload_n hx hb dX3_tell_58 rfl (lv_at hl 0 rfl) ?_
    refine va_get (D := (dC, dI)) (ci := 2) (v := .int o_p) (C := RX3) (T := TX3) (N := 10) hx hb hts iX3 hown hK hP 0 rfl rfl 5 (by decide) (hts (.fieldLink RX3 29 "PascalRows$Setup" "p" "I") (List.mem_of_getElem? (i := 3) rfl)) (fun _ h9 => h9) rfl dX3_tell_59 ?_
    refine lv_iload_n hx hb dX3_tell_62 rfl (lv_at hl 2 rfl) ?_
    refine lv_iload_n hx hb dX3_tell_63 rfl (lv_at hl 3 rfl) ?_
    obtain ⟨u_4, hu_4, hr⟩ := bd_e hr
    refine ro_V ⟨hx, hb, hml, hown, hts⟩ (k_X5_lucas l dC dI cI cJ a_o_triangle a_o_triangle_halves o_p p1 p2 o_triangle_halves u_4 hu_4) (cwV 3 hts gX3_tell_X5_lucas rfl rfl rfl (by decide +kernel) ⟨Nat.le_of_ble_eq_true rfl, Nat.le_of_ble_eq_true rfl⟩) hE hP 1 rfl rfl rfl (hP.sub [1, 2] rfl) rfl hl.1 rfl (Nat.le_of_ble_eq_true rfl) dX3_tell_64 ⟨Nat.zero_le _, Nat.zero_le _⟩ ?_
    exact hret 67 ls _ dX3_tell_67 (Option.some.inj hr)
  have hr := ite_n hr c_3
  by_cases c_5 : p0 = (2 : Int32)
  · have hr := ite_p hr c_5
    refine W.eq (g2 := F0 m 10 ls (.int (2 : Int32) :: [])) (congrArg (fun z => F0 m 10 ls (.int z :: [])) c_5) ?_
    refine lv_tableIn (tgt := 68) hx hb dX3_tell_10 (by decide) (by decide) (by first | rfl | decide) (by decide) ?_
    refine lv_aload_n hx hb dX3_tell_68 rfl (lv_at hl 0 rfl) ?_
    refine va_get (D := (dC, dI)) (ci := 2) (v := .int o_p) (C := RX3) (T := TX3) (N := 10) hx hb hts iX3 hown hK hP 0 rfl rfl 5 (by decide) (hts (.fieldLink RX3 29 "PascalRows$Setup" "p" "I") (List.mem_of_getElem? (i := 3) rfl)) (fun _ h9 => h9) rfl dX3_tell_69 ?_
    refine lv_iload_n hx hb dX3_tell_72 rfl (lv_at hl 2 rfl) ?_
    refine lv_iload_n hx hb dX3_tell_73 rfl (lv_at hl 3 rfl) ?_
    obtain ⟨u_6, hu_6, hr⟩ := bd_e hr
    refine ro_S ⟨hx, hb, hml, hown, hts⟩ (k_X0_carries l dC dI cI cJ o_p p1 p2 u_6 hu_6) (va_cwS 3 hts gX3_tell_X0_carries rfl rfl rfl (by decide +kernel) ⟨Nat.le_of_ble_eq_true rfl, Nat.le_of_ble_eq_true rfl⟩) hE (hP.sub [] rfl) rfl hl.1 rfl (Nat.le_of_ble_eq_true rfl) dX3_tell_74 ⟨Nat.zero_le _, Nat.zero_le _⟩ ?_
    exact hret 77 ls _ dX3_tell_77 (Option.some.inj hr)
  have hr := ite_n hr c_5
  by_cases c_7 : p0 = (3 : Int32)
  · have hr := ite_p hr c_7
    refine W.eq (g2 := F0 m 10 ls (.int (3 : Int32) :: [])) (congrArg (fun z => F0 m 10 ls (.int z :: [])) c_7) ?_
    refine lv_tableIn (tgt := 78) hx hb dX3_tell_10 (by decide) (by decide) (by first | rfl | decide) (by decide) ?_
    refine lv_aload_n hx hb dX3_tell_78 rfl (lv_at hl 0 rfl) ?_
    refine va_get (D := (dC, dI)) (ci := 2) (v := .int o_p) (C := RX3) (T := TX3) (N := 10) hx hb hts iX3 hown hK hP 0 rfl rfl 5 (by decide) (hts (.fieldLink RX3 29 "PascalRows$Setup" "p" "I") (List.mem_of_getElem? (i := 3) rfl)) (fun _ h9 => h9) rfl dX3_tell_79 ?_
    refine lv_iload_n hx hb dX3_tell_82 rfl (lv_at hl 2 rfl) ?_
    refine lv_iload_n hx hb dX3_tell_83 rfl (lv_at hl 3 rfl) ?_
    obtain ⟨u_8, hu_8, hr⟩ := bd_e hr
    refine ro_S ⟨hx, hb, hml, hown, hts⟩ (k_X0_legendre l dC dI cI cJ o_p p1 p2 u_8 hu_8) (va_cwS 3 hts gX3_tell_X0_legendre rfl rfl rfl (by decide +kernel) ⟨Nat.le_of_ble_eq_true rfl, Nat.le_of_ble_eq_true rfl⟩) hE (hP.sub [] rfl) rfl hl.1 rfl (Nat.le_of_ble_eq_true rfl) dX3_tell_84 ⟨Nat.zero_le _, Nat.zero_le _⟩ ?_
    exact hret 87 ls _ dX3_tell_87 (Option.some.inj hr)
  have hr := ite_n hr c_7
  refine lv_tableOut (tgt := 88) hx hb dX3_tell_10 (tbl_out (fun k h1 h2 => ?_)) (by decide) ?_
  · rcases (show k = 0 ∨ k = 1 ∨ k = 2 ∨ k = 3 by omega) with rfl | rfl | rfl | rfl
    · exact i32_ne c_1 rfl
    · exact i32_ne c_3 rfl
    · exact i32_ne c_5 rfl
    · exact i32_ne c_7 rfl
  refine lv_aload_n hx hb dX3_tell_88 rfl (lv_at hl 0 rfl) ?_
  refine va_get (D := (dC, dI)) (ci := 2) (v := .int o_p) (C := RX3) (T := TX3) (N := 10) hx hb hts iX3 hown hK hP 0 rfl rfl 5 (by decide) (hts (.fieldLink RX3 29 "PascalRows$Setup" "p" "I") (List.mem_of_getElem? (i := 3) rfl)) (fun _ h9 => h9) rfl dX3_tell_89 ?_
  refine lv_iload_n hx hb dX3_tell_92 rfl (lv_at hl 2 rfl) ?_
  refine lv_iload_n hx hb dX3_tell_93 rfl (lv_at hl 3 rfl) ?_
  obtain ⟨u_9, hu_9, hr⟩ := bd_e hr
  refine ro_S ⟨hx, hb, hml, hown, hts⟩ (k_X0_isCovered l dC dI cI cJ o_p p1 p2 u_9 hu_9) (va_cwS 3 hts gX3_tell_X0_isCovered rfl rfl rfl (by decide +kernel) ⟨Nat.le_of_ble_eq_true rfl, Nat.le_of_ble_eq_true rfl⟩) hE (hP.sub [] rfl) rfl hl.1 rfl (Nat.le_of_ble_eq_true rfl) dX3_tell_94 ⟨Nat.zero_le _, Nat.zero_le _⟩ ?_
  have hJ_10 : ∀ (y_11 : Int32) (ey_11 : y_11 = (if (¬ (u_9 = 0)) then (1 : Int32) else (0 : Int32))) (ls : Array Slot), lv_has ls 4 [] → W p l e rmX3_tell s m args below meth c s.heap [] 0 0 Q (F0 m 105 ls [.int y_11]) := by
    intro y_11 ey_11 ls hl
    subst ey_11
    exact hret 105 ls _ dX3_tell_105 (Option.some.inj hr)
  refine lv_if_eq (tgt := 104) hx hb dX3_tell_97 (by decide) (fun c_12 => ?_) (fun c_12 => ?_)
  · refine lv_iconst (v := (0 : Int32)) hx hb dX3_tell_104 (by decide) ?_
    exact hJ_10 _ (if_neg (fun h => h c_12)).symm ls (lv_sub hl [] rfl)
  · refine lv_iconst (v := (1 : Int32)) hx hb dX3_tell_100 (by decide) ?_
    refine lv_goto (tgt := 105) hx hb dX3_tell_101 (by decide) ?_
    exact hJ_10 _ (if_pos c_12).symm ls (lv_sub hl [] rfl)
/-! X3_isMarked -/
def rmX3_isMarked : Room := { frames := 3, cells := 0, slots := 0, locals := 74 }
set_option maxHeartbeats 4000000 in
set_option maxRecDepth 100000 in
theorem k_X3_isMarked (l : Launch) (dC : Nat → ClassId) (dI : Nat → Nat → Nat) (cI cJ : ClassId) (a_o : Nat) (a_o_triangle : Nat) (a_o_marks : Nat) (a_o_seen : Nat) (a_o_events : Nat) (a_o_book : Nat) (a_o_triangle_halves : Nat) (a_o_marks_numbers : Nat) (p0 : Int32) (p1 : Int32) (o_p : Int32) (o_e : Int32) (o_modulus : Int32) (o_windowRow : Int32) (o_windowPlace : Int32) (o_triangle_halves : Nat → Int32) (o_marks_size : Int32) (o_marks_numbers : Nat → Int32) (r : Int32) (hr : f_X3_isMarked p0 p1 o_triangle_halves o_marks_numbers o_marks_size o_p o_modulus = some r) : Met l yX3_isMarked wsX3_isMarked rmX3_isMarked (va_Pc [.ref a_o, .int p0, .int p1] (pE (dC, dI) cI cJ [(a_o, .inr (2, [.ref a_o_triangle, .ref a_o_marks, .ref a_o_seen, .ref a_o_events, .ref a_o_book, .int o_p, .int o_e, .int o_modulus, .int o_windowRow, .int o_windowPlace])), (a_o_triangle, .inr (4, [.ref a_o_triangle_halves])), (a_o_triangle_halves, .inl (cI, 4160, .inl o_triangle_halves)), (a_o_marks, .inr (0, [.ref a_o_marks_numbers, .int o_marks_size])), (a_o_marks_numbers, .inl (cI, 18, .inl o_marks_numbers))])) (rq (.int r)) 0 0 nofree := by
  refine ro_of_z (cc := cX3_isMarked) (maxL := 4) (by decide) rfl (Nat.le_of_ble_eq_true rfl) ?_
  intro p e s m args below meth c Q ls hx hb hml hown hts hE hP hret hl
  have hK := hE.1
  have hl : lv_has ls 4 [(0, .ref a_o), (1, .int p0), (2, .int p1)] := hl
  unfold f_X3_isMarked at hr
  have iX1 : ∀ w ∈ wsX10, w ∈ wsX3_isMarked := memr_ (big := wsX3_isMarked) wsX10 [60, 61] (by decide +kernel)
  have iX3 : ∀ w ∈ wsX30, w ∈ wsX3_isMarked := memr_ (big := wsX3_isMarked) wsX30 [50, 51, 52, 53, 54, 55, 56, 57, 58, 59] (by decide +kernel)
  have iX5 : ∀ w ∈ wsX50, w ∈ wsX3_isMarked := memr_ (big := wsX3_isMarked) wsX50 [62] (by decide +kernel)
  refine lv_iload_n hx hb dX3_isMarked_0 rfl (lv_at hl 1 rfl) ?_
  refine lv_iload_n hx hb dX3_isMarked_1 rfl (lv_at hl 2 rfl) ?_
  refine ro_SN ⟨hx, hb, hml, hown, hts⟩ (k_X6_isPlace l dC dI cI cJ p0 p1) ⟨va_cnB 2 hts gX3_isMarked_X6_isPlace_n94 rfl rfl rfl (hE.nw 17 rfl) (hts (.initialized RX6) (List.mem_of_getElem? (i := 3) rfl)) (by decide +kernel) ⟨Nat.le_of_ble_eq_true rfl, Nat.le_of_ble_eq_true rfl⟩, (hts (.static yX6_isPlace) (List.mem_of_getElem? (i := 2) rfl)), trivial⟩ hE (hP.sub [] rfl) rfl hl.1 rfl (Nat.le_of_ble_eq_true rfl) dX3_isMarked_2 ⟨Nat.zero_le _, Nat.zero_le _⟩ ?_
  refine lv_if_ne (tgt := 10) hx hb dX3_isMarked_5 (by decide) (fun c_1 => ?_) (fun c_1 => ?_)
  · have hr := ite_n hr c_1
    refine lv_iconst (v := (0 : Int32)) hx hb dX3_isMarked_10 (by decide) ?_
    refine lv_istore_n (lv' := [(3, .int (0 : Int32)), (0, .ref a_o), (1, .int p0), (2, .int p1)]) hx hb dX3_isMarked_11 rfl hl (by decide) rfl (fun ls hl => ?_)
    have hL12 : ∀ (v1_12 : Int32) (v2_12 : Int32) (k_12 : Option (Int32)) (hk : ∀  (ls : Array Slot), lv_has ls 4 [] → k_12 = some r → W p l e rmX3_isMarked s m args below meth c s.heap [] 0 0 Q (F0 m 58 ls [])) (fuel : Nat) (v3_12 : Int32) (ls : Array Slot), lv_has ls 4 [(0, .ref a_o), (1, .int v1_12), (2, .int v2_12), (3, .int v3_12)] → f_X3_isMarked_L12 k_12 v1_12 v2_12 o_triangle_halves o_marks_numbers o_marks_size o_p o_modulus fuel v3_12 = some r → W p l e rmX3_isMarked s m args below meth c s.heap [] 0 0 Q (F0 m 12 ls []) := by
      intro v1_12 v2_12 k_12 hk fuel
      induction fuel with
      | zero =>
        intro v3_12 ls hl hr
        rw [f_X3_isMarked_L12_z] at hr
        cases hr
      | succ fuel ih =>
        intro v3_12 ls hl hr
        rw [f_X3_isMarked_L12_s] at hr
        refine lv_iload_n hx hb dX3_isMarked_12 rfl (lv_at hl 3 rfl) ?_
        refine lv_aload_n hx hb dX3_isMarked_13 rfl (lv_at hl 0 rfl) ?_
        refine va_get (D := (dC, dI)) (ci := 2) (v := .ref a_o_marks) (C := RX3) (T := TX3) (N := 10) hx hb hts iX3 hown hK hP 0 rfl rfl 1 (by decide) (hts (.fieldLink RX3 16 "PascalRows$Setup" "marks" "LPascalRows$Lines;") (List.mem_of_getElem? (i := 1) rfl)) (fun _ h9 => h9) rfl dX3_isMarked_14 ?_
        refine va_getN (host := "PascalRows") (D := (dC, dI)) (ci := 0) (v := .int o_marks_size) (C := RX1) (T := TX1) (N := 2) hx hb hts iX1 hown hK hP 3 rfl rfl 1 (by decide) (hE.nest 9 rfl rfl) (fun _ h9 => h9) rfl dX3_isMarked_17 ?_
        refine lv_icmp_ge (tgt := 58) hx hb dX3_isMarked_20 (by decide) (fun c_2 => ?_) (fun c_2 => ?_)
        · have hr := ite_p hr c_2
          exact hk  ls (lv_sub hl [] rfl) hr
        · have hr := ite_n hr c_2
          refine lv_aload_n hx hb dX3_isMarked_23 rfl (lv_at hl 0 rfl) ?_
          refine lv_aload_n hx hb dX3_isMarked_24 rfl (lv_at hl 0 rfl) ?_
          refine va_get (D := (dC, dI)) (ci := 2) (v := .ref a_o_marks) (C := RX3) (T := TX3) (N := 10) hx hb hts iX3 hown hK hP 0 rfl rfl 1 (by decide) (hts (.fieldLink RX3 16 "PascalRows$Setup" "marks" "LPascalRows$Lines;") (List.mem_of_getElem? (i := 1) rfl)) (fun _ h9 => h9) rfl dX3_isMarked_25 ?_
          refine lv_iload_n hx hb dX3_isMarked_28 rfl (lv_at hl 3 rfl) ?_
          refine lv_iconst (v := (0 : Int32)) hx hb dX3_isMarked_29 (by decide) ?_
          obtain ⟨u_3, hu_3, hr⟩ := bd_e hr
          refine ro_V ⟨hx, hb, hml, hown, hts⟩ (k_X1_number l dC dI cI cJ a_o_marks a_o_marks_numbers v3_12 (0 : Int32) 18 o_marks_size o_marks_numbers u_3 hu_3) (cwV 2 hts gX3_isMarked_X1_number rfl rfl rfl (by decide +kernel) ⟨Nat.le_of_ble_eq_true rfl, Nat.le_of_ble_eq_true rfl⟩) hE hP 3 rfl rfl rfl (hP.sub [3, 4] rfl) rfl hl.1 rfl (Nat.le_of_ble_eq_true rfl) dX3_isMarked_30 ⟨Nat.zero_le _, Nat.zero_le _⟩ ?_
          refine lv_iload_n hx hb dX3_isMarked_33 rfl (lv_at hl 1 rfl) ?_
          refine lv_iload_n hx hb dX3_isMarked_34 rfl (lv_at hl 2 rfl) ?_
          obtain ⟨u_4, hu_4, hr⟩ := bd_e hr
          refine ro_V ⟨hx, hb, hml, hown, hts⟩ (k_X3_tell l dC dI cI cJ a_o a_o_triangle a_o_marks a_o_seen a_o_events a_o_book a_o_triangle_halves u_3 v1_12 v2_12 o_p o_e o_modulus o_windowRow o_windowPlace o_triangle_halves u_4 hu_4) (cwV 3 hts gX3_isMarked_X3_tell rfl rfl rfl (by decide +kernel) ⟨Nat.le_of_ble_eq_true rfl, Nat.le_of_ble_eq_true rfl⟩) hE hP 0 rfl rfl rfl (hP.sub [0, 1, 2] rfl) rfl hl.1 rfl (Nat.le_of_ble_eq_true rfl) dX3_isMarked_35 ⟨Nat.zero_le _, Nat.zero_le _⟩ ?_
          refine lv_aload_n hx hb dX3_isMarked_38 rfl (lv_at hl 0 rfl) ?_
          refine va_get (D := (dC, dI)) (ci := 2) (v := .ref a_o_marks) (C := RX3) (T := TX3) (N := 10) hx hb hts iX3 hown hK hP 0 rfl rfl 1 (by decide) (hts (.fieldLink RX3 16 "PascalRows$Setup" "marks" "LPascalRows$Lines;") (List.mem_of_getElem? (i := 1) rfl)) (fun _ h9 => h9) rfl dX3_isMarked_39 ?_
          refine lv_iload_n hx hb dX3_isMarked_42 rfl (lv_at hl 3 rfl) ?_
          refine lv_iconst (v := (1 : Int32)) hx hb dX3_isMarked_43 (by decide) ?_
          obtain ⟨u_5, hu_5, hr⟩ := bd_e hr
          refine ro_V ⟨hx, hb, hml, hown, hts⟩ (k_X1_number l dC dI cI cJ a_o_marks a_o_marks_numbers v3_12 (1 : Int32) 18 o_marks_size o_marks_numbers u_5 hu_5) (cwV 2 hts gX3_isMarked_X1_number rfl rfl rfl (by decide +kernel) ⟨Nat.le_of_ble_eq_true rfl, Nat.le_of_ble_eq_true rfl⟩) hE hP 3 rfl rfl rfl (hP.sub [3, 4] rfl) rfl hl.1 rfl (Nat.le_of_ble_eq_true rfl) dX3_isMarked_44 ⟨Nat.zero_le _, Nat.zero_le _⟩ ?_
          refine lv_icmp_ne (tgt := 52) hx hb dX3_isMarked_47 (by decide) (fun c_6 => ?_) (fun c_6 => ?_)
          · have hr := ite_n hr c_6
            refine lv_iinc (v := (v3_12 + (1 : Int32))) (lv' := [(3, .int (v3_12 + (1 : Int32))), (0, .ref a_o), (1, .int v1_12), (2, .int v2_12)]) hx hb dX3_isMarked_52 hl (k := 3) rfl (congrArg (fun z => v3_12 + z) (by decide)) (by decide) rfl (fun ls hl => ?_)
            refine lv_goto (tgt := 12) hx hb dX3_isMarked_55 (by decide) ?_
            exact ih (v3_12 + (1 : Int32)) ls (lv_sub hl [1, 2, 3, 0] rfl) hr
          · have hr := ite_p hr c_6
            refine lv_iconst (v := (1 : Int32)) hx hb dX3_isMarked_50 (by decide) ?_
            exact hret 51 ls _ dX3_isMarked_51 (Or.inr rfl) (Option.some.inj hr)
    refine hL12 p0 p1 _ (fun  ls hl hr => ?_) 5000 (0 : Int32) ls (lv_sub hl [1, 2, 3, 0] rfl) hr
    refine lv_iconst (v := (0 : Int32)) hx hb dX3_isMarked_58 (by decide) ?_
    exact hret 59 ls _ dX3_isMarked_59 (Or.inl rfl) (Option.some.inj hr)
  · have hr := ite_p hr c_1
    refine lv_iconst (v := (0 : Int32)) hx hb dX3_isMarked_8 (by decide) ?_
    exact hret 9 ls _ dX3_isMarked_9 (Or.inl rfl) (Option.some.inj hr)
/-! X3_pictureRow -/
def rmX3_pictureRow : Room := { frames := 4, cells := 0, slots := 0, locals := 97 }
set_option maxHeartbeats 4000000 in
set_option maxRecDepth 100000 in
theorem k_X3_pictureRow (l : Launch) (dC : Nat → ClassId) (dI : Nat → Nat → Nat) (cI cJ : ClassId) (a_o : Nat) (a_o_triangle : Nat) (a_o_marks : Nat) (a_o_seen : Nat) (a_o_events : Nat) (a_o_book : Nat) (a_o_triangle_halves : Nat) (a_o_marks_numbers : Nat) (p0 : Int32) (o_p : Int32) (o_e : Int32) (o_modulus : Int32) (o_windowRow : Int32) (o_windowPlace : Int32) (o_triangle_halves : Nat → Int32) (o_marks_size : Int32) (o_marks_numbers : Nat → Int32) (r : Int32) (hr : f_X3_pictureRow p0 o_triangle_halves o_marks_numbers o_marks_size o_p o_modulus o_windowRow o_windowPlace = some r) : Met l yX3_pictureRow wsX3_pictureRow rmX3_pictureRow (va_Pc [.ref a_o, .int p0] (pE (dC, dI) cI cJ [(a_o, .inr (2, [.ref a_o_triangle, .ref a_o_marks, .ref a_o_seen, .ref a_o_events, .ref a_o_book, .int o_p, .int o_e, .int o_modulus, .int o_windowRow, .int o_windowPlace])), (a_o_triangle, .inr (4, [.ref a_o_triangle_halves])), (a_o_triangle_halves, .inl (cI, 4160, .inl o_triangle_halves)), (a_o_marks, .inr (0, [.ref a_o_marks_numbers, .int o_marks_size])), (a_o_marks_numbers, .inl (cI, 18, .inl o_marks_numbers))])) (rq (.int r)) 0 0 nofree := by
  refine ro_of_i (cc := cX3_pictureRow) (maxL := 4) (by decide) rfl (Nat.le_of_ble_eq_true rfl) ?_
  intro p e s m args below meth c Q ls hx hb hml hown hts hE hP hret hl
  have hK := hE.1
  have hl : lv_has ls 4 [(0, .ref a_o), (1, .int p0)] := hl
  unfold f_X3_pictureRow at hr
  have iX1 : ∀ w ∈ wsX10, w ∈ wsX3_pictureRow := memr_ (big := wsX3_pictureRow) wsX10 [66, 67] (by decide +kernel)
  have iX3 : ∀ w ∈ wsX30, w ∈ wsX3_pictureRow := memr_ (big := wsX3_pictureRow) wsX30 [56, 57, 58, 59, 60, 61, 62, 63, 64, 65] (by decide +kernel)
  have iX5 : ∀ w ∈ wsX50, w ∈ wsX3_pictureRow := memr_ (big := wsX3_pictureRow) wsX50 [68] (by decide +kernel)
  refine lv_iconst (v := (0 : Int32)) hx hb dX3_pictureRow_0 (by decide) ?_
  refine lv_istore_n (lv' := [(2, .int (0 : Int32)), (0, .ref a_o), (1, .int p0)]) hx hb dX3_pictureRow_1 rfl hl (by decide) rfl (fun ls hl => ?_)
  refine lv_iconst (v := (0 : Int32)) hx hb dX3_pictureRow_2 (by decide) ?_
  refine lv_istore_n (lv' := [(3, .int (0 : Int32)), (2, .int (0 : Int32)), (0, .ref a_o), (1, .int p0)]) hx hb dX3_pictureRow_3 rfl hl (by decide) rfl (fun ls hl => ?_)
  have hL4 : ∀ (v1_4 : Int32) (k_4 : Int32 → Option (Int32)) (hk : ∀ (x2_4 : Int32) (ls : Array Slot), lv_has ls 4 [(2, .int x2_4)] → k_4 x2_4 = some r → W p l e rmX3_pictureRow s m args below meth c s.heap [] 0 0 Q (F0 m 41 ls [])) (fuel : Nat) (v2_4 : Int32) (v3_4 : Int32) (ls : Array Slot), lv_has ls 4 [(0, .ref a_o), (1, .int v1_4), (2, .int v2_4), (3, .int v3_4)] → f_X3_pictureRow_L4 k_4 v1_4 o_triangle_halves o_marks_numbers o_marks_size o_p o_modulus o_windowRow o_windowPlace fuel v2_4 v3_4 = some r → W p l e rmX3_pictureRow s m args below meth c s.heap [] 0 0 Q (F0 m 4 ls []) := by
    intro v1_4 k_4 hk fuel
    induction fuel with
    | zero =>
      intro v2_4 v3_4 ls hl hr
      rw [f_X3_pictureRow_L4_z] at hr
      cases hr
    | succ fuel ih =>
      intro v2_4 v3_4 ls hl hr
      rw [f_X3_pictureRow_L4_s] at hr
      refine lv_iload_n hx hb dX3_pictureRow_4 rfl (lv_at hl 3 rfl) ?_
      refine lv_bipush (v := (8 : Int32)) hx hb dX3_pictureRow_5 (by decide) ?_
      refine lv_icmp_ge (tgt := 41) hx hb dX3_pictureRow_7 (by decide) (fun c_1 => ?_) (fun c_1 => ?_)
      · have hr := ite_p hr c_1
        exact hk v2_4 ls (lv_sub hl [2] rfl) hr
      · have hr := ite_n hr c_1
        refine lv_aload_n hx hb dX3_pictureRow_10 rfl (lv_at hl 0 rfl) ?_
        refine lv_aload_n hx hb dX3_pictureRow_11 rfl (lv_at hl 0 rfl) ?_
        refine va_get (D := (dC, dI)) (ci := 2) (v := .int o_windowRow) (C := RX3) (T := TX3) (N := 10) hx hb hts iX3 hown hK hP 0 rfl rfl 8 (by decide) (hts (.fieldLink RX3 53 "PascalRows$Setup" "windowRow" "I") (List.mem_of_getElem? (i := 1) rfl)) (fun _ h9 => h9) rfl dX3_pictureRow_12 ?_
        refine lv_iload_n hx hb dX3_pictureRow_15 rfl (lv_at hl 1 rfl) ?_
        refine lv_iadd hx hb dX3_pictureRow_16 ?_
        refine lv_aload_n hx hb dX3_pictureRow_17 rfl (lv_at hl 0 rfl) ?_
        refine va_get (D := (dC, dI)) (ci := 2) (v := .int o_windowPlace) (C := RX3) (T := TX3) (N := 10) hx hb hts iX3 hown hK hP 0 rfl rfl 9 (by decide) (hts (.fieldLink RX3 56 "PascalRows$Setup" "windowPlace" "I") (List.mem_of_getElem? (i := 2) rfl)) (fun _ h9 => h9) rfl dX3_pictureRow_18 ?_
        refine lv_iload_n hx hb dX3_pictureRow_21 rfl (lv_at hl 3 rfl) ?_
        refine lv_iadd hx hb dX3_pictureRow_22 ?_
        obtain ⟨u_2, hu_2, hr⟩ := bd_e hr
        refine ro_V ⟨hx, hb, hml, hown, hts⟩ (k_X3_isMarked l dC dI cI cJ a_o a_o_triangle a_o_marks a_o_seen a_o_events a_o_book a_o_triangle_halves a_o_marks_numbers (o_windowRow + v1_4) (o_windowPlace + v3_4) o_p o_e o_modulus o_windowRow o_windowPlace o_triangle_halves o_marks_size o_marks_numbers u_2 hu_2) (cwV 2 hts gX3_pictureRow_X3_isMarked rfl rfl rfl (by decide +kernel) ⟨Nat.le_of_ble_eq_true rfl, Nat.le_of_ble_eq_true rfl⟩) hE hP 0 rfl rfl rfl (hP.sub [0, 1, 2, 3, 4] rfl) rfl hl.1 rfl (Nat.le_of_ble_eq_true rfl) dX3_pictureRow_23 ⟨Nat.zero_le _, Nat.zero_le _⟩ ?_
        have hJ_3 : ∀ (y_4 : Int32) (ey_4 : y_4 = (if (u_2 = 0) then v2_4 else (v2_4 ||| ((1 : Int32) <<< (v3_4 &&& 31))))) (ls : Array Slot), lv_has ls 4 [(0, .ref a_o), (1, .int v1_4), (2, .int y_4), (3, .int v3_4)] → W p l e rmX3_pictureRow s m args below meth c s.heap [] 0 0 Q (F0 m 35 ls []) := by
          intro y_4 ey_4 ls hl
          have hr := qn_e hr ey_4
          refine lv_iinc (v := (v3_4 + (1 : Int32))) (lv' := [(3, .int (v3_4 + (1 : Int32))), (0, .ref a_o), (1, .int v1_4), (2, .int y_4)]) hx hb dX3_pictureRow_35 hl (k := 3) rfl (congrArg (fun z => v3_4 + z) (by decide)) (by decide) rfl (fun ls hl => ?_)
          refine lv_goto (tgt := 4) hx hb dX3_pictureRow_38 (by decide) ?_
          exact ih y_4 (v3_4 + (1 : Int32)) ls (lv_sub hl [1, 2, 3, 0] rfl) hr
        refine lv_if_eq (tgt := 35) hx hb dX3_pictureRow_26 (by decide) (fun c_5 => ?_) (fun c_5 => ?_)
        · exact hJ_3 _ (if_pos c_5).symm ls (lv_sub hl [0, 1, 2, 3] rfl)
        · refine lv_iload_n hx hb dX3_pictureRow_29 rfl (lv_at hl 2 rfl) ?_
          refine lv_iconst (v := (1 : Int32)) hx hb dX3_pictureRow_30 (by decide) ?_
          refine lv_iload_n hx hb dX3_pictureRow_31 rfl (lv_at hl 3 rfl) ?_
          refine lv_ishl hx hb dX3_pictureRow_32 ?_
          refine lv_ior hx hb dX3_pictureRow_33 ?_
          refine lv_istore_n (lv' := [(2, .int (v2_4 ||| ((1 : Int32) <<< (v3_4 &&& 31)))), (0, .ref a_o), (1, .int v1_4), (3, .int v3_4)]) hx hb dX3_pictureRow_34 rfl hl (by decide) rfl (fun ls hl => ?_)
          exact hJ_3 _ (if_neg c_5).symm ls (lv_sub hl [1, 2, 0, 3] rfl)
  refine hL4 p0 _ (fun x2_4 ls hl hr => ?_) 5000 (0 : Int32) (0 : Int32) ls (lv_sub hl [2, 3, 1, 0] rfl) hr
  refine lv_iload_n hx hb dX3_pictureRow_41 rfl (lv_at hl 0 rfl) ?_
  exact hret 42 ls _ dX3_pictureRow_42 (Option.some.inj hr)
/-! X3_markedInWindow -/
def rmX3_markedInWindow : Room := { frames := 5, cells := 0, slots := 0, locals := 120 }
set_option maxHeartbeats 4000000 in
set_option maxRecDepth 100000 in
theorem k_X3_markedInWindow (l : Launch) (dC : Nat → ClassId) (dI : Nat → Nat → Nat) (cI cJ : ClassId) (a_o : Nat) (a_o_triangle : Nat) (a_o_marks : Nat) (a_o_seen : Nat) (a_o_events : Nat) (a_o_book : Nat) (a_o_triangle_halves : Nat) (a_o_marks_numbers : Nat) (o_p : Int32) (o_e : Int32) (o_modulus : Int32) (o_windowRow : Int32) (o_windowPlace : Int32) (o_triangle_halves : Nat → Int32) (o_marks_size : Int32) (o_marks_numbers : Nat → Int32) (r : Int32) (hr : f_X3_markedInWindow o_triangle_halves o_marks_numbers o_marks_size o_p o_modulus o_windowRow o_windowPlace = some r) : Met l yX3_markedInWindow wsX3_markedInWindow rmX3_markedInWindow (va_Pc [.ref a_o] (pE (dC, dI) cI cJ [(a_o, .inr (2, [.ref a_o_triangle, .ref a_o_marks, .ref a_o_seen, .ref a_o_events, .ref a_o_book, .int o_p, .int o_e, .int o_modulus, .int o_windowRow, .int o_windowPlace])), (a_o_triangle, .inr (4, [.ref a_o_triangle_halves])), (a_o_triangle_halves, .inl (cI, 4160, .inl o_triangle_halves)), (a_o_marks, .inr (0, [.ref a_o_marks_numbers, .int o_marks_size])), (a_o_marks_numbers, .inl (cI, 18, .inl o_marks_numbers))])) (rq (.int r)) 0 0 nofree := by
  refine ro_of_i (cc := cX3_markedInWindow) (maxL := 3) (by decide) rfl (Nat.le_of_ble_eq_true rfl) ?_
  intro p e s m args below meth c Q ls hx hb hml hown hts hE hP hret hl
  have hK := hE.1
  have hl : lv_has ls 3 [(0, .ref a_o)] := hl
  unfold f_X3_markedInWindow at hr
  have iX1 : ∀ w ∈ wsX10, w ∈ wsX3_markedInWindow := memr_ (big := wsX3_markedInWindow) wsX10 [77, 78] (by decide +kernel)
  have iX3 : ∀ w ∈ wsX30, w ∈ wsX3_markedInWindow := memr_ (big := wsX3_markedInWindow) wsX30 [67, 68, 69, 70, 71, 72, 73, 74, 75, 76] (by decide +kernel)
  have iX5 : ∀ w ∈ wsX50, w ∈ wsX3_markedInWindow := memr_ (big := wsX3_markedInWindow) wsX50 [79] (by decide +kernel)
  refine lv_iconst (v := (0 : Int32)) hx hb dX3_markedInWindow_0 (by decide) ?_
  refine lv_istore_n (lv' := [(1, .int (0 : Int32)), (0, .ref a_o)]) hx hb dX3_markedInWindow_1 rfl hl (by decide) rfl (fun ls hl => ?_)
  refine lv_iconst (v := (0 : Int32)) hx hb dX3_markedInWindow_2 (by decide) ?_
  refine lv_istore_n (lv' := [(2, .int (0 : Int32)), (1, .int (0 : Int32)), (0, .ref a_o)]) hx hb dX3_markedInWindow_3 rfl hl (by decide) rfl (fun ls hl => ?_)
  have hL4 : ∀  (k_4 : Int32 → Option (Int32)) (hk : ∀ (x1_4 : Int32) (ls : Array Slot), lv_has ls 3 [(1, .int x1_4)] → k_4 x1_4 = some r → W p l e rmX3_markedInWindow s m args below meth c s.heap [] 0 0 Q (F0 m 27 ls [])) (fuel : Nat) (v1_4 : Int32) (v2_4 : Int32) (ls : Array Slot), lv_has ls 3 [(0, .ref a_o), (1, .int v1_4), (2, .int v2_4)] → f_X3_markedInWindow_L4 k_4 o_triangle_halves o_marks_numbers o_marks_size o_p o_modulus o_windowRow o_windowPlace fuel v1_4 v2_4 = some r → W p l e rmX3_markedInWindow s m args below meth c s.heap [] 0 0 Q (F0 m 4 ls []) := by
    intro k_4 hk fuel
    induction fuel with
    | zero =>
      intro v1_4 v2_4 ls hl hr
      rw [f_X3_markedInWindow_L4_z] at hr
      cases hr
    | succ fuel ih =>
      intro v1_4 v2_4 ls hl hr
      rw [f_X3_markedInWindow_L4_s] at hr
      refine lv_iload_n hx hb dX3_markedInWindow_4 rfl (lv_at hl 2 rfl) ?_
      refine lv_bipush (v := (8 : Int32)) hx hb dX3_markedInWindow_5 (by decide) ?_
      refine lv_icmp_ge (tgt := 27) hx hb dX3_markedInWindow_7 (by decide) (fun c_1 => ?_) (fun c_1 => ?_)
      · have hr := ite_p hr c_1
        exact hk v1_4 ls (lv_sub hl [1] rfl) hr
      · have hr := ite_n hr c_1
        refine lv_iload_n hx hb dX3_markedInWindow_10 rfl (lv_at hl 1 rfl) ?_
        refine lv_aload_n hx hb dX3_markedInWindow_11 rfl (lv_at hl 0 rfl) ?_
        refine lv_iload_n hx hb dX3_markedInWindow_12 rfl (lv_at hl 2 rfl) ?_
        obtain ⟨u_2, hu_2, hr⟩ := bd_e hr
        refine ro_V ⟨hx, hb, hml, hown, hts⟩ (k_X3_pictureRow l dC dI cI cJ a_o a_o_triangle a_o_marks a_o_seen a_o_events a_o_book a_o_triangle_halves a_o_marks_numbers v2_4 o_p o_e o_modulus o_windowRow o_windowPlace o_triangle_halves o_marks_size o_marks_numbers u_2 hu_2) (cwV 1 hts gX3_markedInWindow_X3_pictureRow rfl rfl rfl (by decide +kernel) ⟨Nat.le_of_ble_eq_true rfl, Nat.le_of_ble_eq_true rfl⟩) hE hP 0 rfl rfl rfl (hP.sub [0, 1, 2, 3, 4] rfl) rfl hl.1 rfl (Nat.le_of_ble_eq_true rfl) dX3_markedInWindow_13 ⟨Nat.zero_le _, Nat.zero_le _⟩ ?_
        obtain ⟨u_3, hu_3, hr⟩ := bd_e hr
        refine ro_S ⟨hx, hb, hml, hown, hts⟩ (k_J6_bitCount_0f7a4 l dC dI cI cJ u_2 u_3 hu_3) (va_cwS 1 hts gX3_markedInWindow_J6_bitCount_0f7a4 rfl rfl rfl (by decide +kernel) ⟨Nat.le_of_ble_eq_true rfl, Nat.le_of_ble_eq_true rfl⟩) hE (hP.sub [] rfl) rfl hl.1 rfl (Nat.le_of_ble_eq_true rfl) dX3_markedInWindow_16 ⟨Nat.zero_le _, Nat.zero_le _⟩ ?_
        refine lv_iadd hx hb dX3_markedInWindow_19 ?_
        refine lv_istore_n (lv' := [(1, .int (v1_4 + u_3)), (0, .ref a_o), (2, .int v2_4)]) hx hb dX3_markedInWindow_20 rfl hl (by decide) rfl (fun ls hl => ?_)
        refine lv_iinc (v := (v2_4 + (1 : Int32))) (lv' := [(2, .int (v2_4 + (1 : Int32))), (1, .int (v1_4 + u_3)), (0, .ref a_o)]) hx hb dX3_markedInWindow_21 hl (k := 2) rfl (congrArg (fun z => v2_4 + z) (by decide)) (by decide) rfl (fun ls hl => ?_)
        refine lv_goto (tgt := 4) hx hb dX3_markedInWindow_24 (by decide) ?_
        exact ih (v1_4 + u_3) (v2_4 + (1 : Int32)) ls (lv_sub hl [2, 1, 0] rfl) hr
  refine hL4  _ (fun x1_4 ls hl hr => ?_) 5000 (0 : Int32) (0 : Int32) ls (lv_sub hl [2, 1, 0] rfl) hr
  refine lv_iload_n hx hb dX3_markedInWindow_27 rfl (lv_at hl 0 rfl) ?_
  exact hret 28 ls _ dX3_markedInWindow_28 (Option.some.inj hr)
