/-! X1_add -/
def rmX1_add : Room := { frames := 0, cells := 0, slots := 0, locals := 0 }
set_option maxHeartbeats 4000000 in
set_option maxRecDepth 100000 in
theorem k_X1_add (l : Launch) (dC : Nat → ClassId) (dI : Nat → Nat → Nat) (cI cJ : ClassId) (a_o : Nat) (a_o_numbers : Nat) (p0 : Int32) (p1 : Int32) (p2 : Int32) (n_o_numbers : Nat) (o_size : Int32) (o_numbers : Nat → Int32) (sz : Nat) (r : Int32 × (Nat → Int32) × Int32) (hr : f_X1_add p0 p1 p2 n_o_numbers o_numbers o_size = some r) : Met l yX1_add wsX1_add rmX1_add (va_Pc [.ref a_o, .int p0, .int p1, .int p2] (pM (dC, dI) cI cJ [(a_o, .inr (0, [.ref a_o_numbers, .int o_size])), (a_o_numbers, .inl (cI, n_o_numbers, .inl o_numbers))] sz)) (qM (some (.int r.1)) (dC, dI) [(a_o, .inr (0, [.ref a_o_numbers, .int r.2.2])), (a_o_numbers, .inl (cI, n_o_numbers, .inl r.2.1))] (va_A [(a_o, .inr (0, [.ref a_o_numbers, .int o_size])), (a_o_numbers, .inl (cI, n_o_numbers, .inl o_numbers))] sz)) 0 0 (va_A [(a_o, .inr (0, [.ref a_o_numbers, .int o_size])), (a_o_numbers, .inl (cI, n_o_numbers, .inl o_numbers))] sz) := by
  refine mu_of (cc := cX1_add) (maxL := 5) (by decide) rfl (Nat.le_of_ble_eq_true rfl) ?_
  intro p e s m args below meth c Q ls A hx hb hml hown hts hE hP hD hA hrt hlocks hret hl
  have hK := hE.1
  have hS : va_S A s.heap s.heap [] := va_S.rf
  have hl : lv_has ls 5 [(0, .ref a_o), (1, .int p0), (2, .int p1), (3, .int p2)] := hl
  unfold f_X1_add at hr
  obtain ⟨H, hHe⟩ : ∃ H, H = s.heap := ⟨_, rfl⟩
  obtain ⟨locs, hLe⟩ : ∃ locs : List Loc, locs = [] := ⟨_, rfl⟩
  suffices hgo : va_P (dC, dI) vwCl [(a_o, .inr (0, [.ref a_o_numbers, .int o_size])), (a_o_numbers, .inl (cI, n_o_numbers, .inl o_numbers))] H → va_S A s.heap H locs → W p l e rmX1_add s m args below meth c H locs 0 0 Q (F0 m 0 ls []) by
    subst hHe; subst hLe; exact hgo hP hS
  clear hP hS hHe hLe
  intro hP hS
  have iX1 : ∀ w ∈ wsX10, w ∈ wsX1_add := memr_ (big := wsX1_add) wsX10 [3, 4] (by decide +kernel)
  refine lv_iconst (v := (3 : Int32)) hx hb dX1_add_0 (by decide) ?_
  refine lv_aload_n hx hb dX1_add_1 rfl (lv_at hl 0 rfl) ?_
  refine va_get (D := (dC, dI)) (ci := 0) (v := .int o_size) (C := RX1) (T := TX1) (N := 2) hx hb hts iX1 hown hK hP 0 rfl rfl 1 (by decide) (hts (.fieldLink RX1 24 "PascalRows$Lines" "size" "I") (List.mem_of_getElem? (i := 1) rfl)) (fun _ h9 => h9) rfl dX1_add_2 ?_
  refine lv_imul hx hb dX1_add_5 ?_
  refine lv_istore (lv' := [(4, .int ((3 : Int32) * o_size)), (0, .ref a_o), (1, .int p0), (2, .int p1), (3, .int p2)]) hx hb dX1_add_6 hl (by decide) rfl (fun ls hl => ?_)
  refine lv_iload hx hb dX1_add_8 (lv_at hl 0 rfl) ?_
  have tT_2 : ((((3 : Int32) * o_size) < 0) ∨ (¬ (((3 : Int32) * o_size) ≤ ((Int32.ofNat n_o_numbers) - (3 : Int32))))) → W p l e rmX1_add s m args below meth c H locs 0 0 Q (F0 m 25 ls []) := by
    intro hc_1
    have hr := ite_p hr hc_1
    refine lv_bipush (v := (-4 : Int32)) hx hb dX1_add_25 (by decide) ?_
    obtain rfl := Option.some.inj hr
    exact hret H locs _ hP hS (fun Qc free hq hf => W.iret hx hb hrt hq hf dX1_add_27 hlocks)
  have tF_3 : ¬ ((((3 : Int32) * o_size) < 0) ∨ (¬ (((3 : Int32) * o_size) ≤ ((Int32.ofNat n_o_numbers) - (3 : Int32))))) → W p l e rmX1_add s m args below meth c H locs 0 0 Q (F0 m 28 ls []) := by
    intro hc_1
    have hr := ite_n hr hc_1
    refine lv_aload_n hx hb dX1_add_28 rfl (lv_at hl 1 rfl) ?_
    refine va_get (D := (dC, dI)) (ci := 0) (v := .ref a_o_numbers) (C := RX1) (T := TX1) (N := 2) hx hb hts iX1 hown hK hP 0 rfl rfl 0 (by decide) (hts (.fieldLink RX1 20 "PascalRows$Lines" "numbers" "[I") (List.mem_of_getElem? (i := 2) rfl)) (fun _ h9 => h9) rfl dX1_add_29 ?_
    refine lv_iload hx hb dX1_add_32 (lv_at hl 0 rfl) ?_
    refine lv_iload_n hx hb dX1_add_34 rfl (lv_at hl 2 rfl) ?_
    obtain ⟨w_4, ew_4, hw_4, hr⟩ := wr_e hr
    refine va_iast hx hb hK hP (hD.fst rfl) hS 1 0 rfl rfl hw_4 dX1_add_35 (fun H locs hP _ hS => ?_)
    rw [← ew_4] at hP
    have hP : va_P (dC, dI) vwCl [(a_o, .inr (0, [.ref a_o_numbers, .int o_size])), (a_o_numbers, .inl (cI, n_o_numbers, .inl w_4))] H := hP
    refine lv_aload_n hx hb dX1_add_36 rfl (lv_at hl 1 rfl) ?_
    refine va_get (D := (dC, dI)) (ci := 0) (v := .ref a_o_numbers) (C := RX1) (T := TX1) (N := 2) hx hb hts iX1 hown hK hP 0 rfl rfl 0 (by decide) (hts (.fieldLink RX1 20 "PascalRows$Lines" "numbers" "[I") (List.mem_of_getElem? (i := 2) rfl)) (fun _ h9 => h9) rfl dX1_add_37 ?_
    refine lv_iload hx hb dX1_add_40 (lv_at hl 0 rfl) ?_
    refine lv_iconst (v := (1 : Int32)) hx hb dX1_add_42 (by decide) ?_
    refine lv_iadd hx hb dX1_add_43 ?_
    refine lv_iload_n hx hb dX1_add_44 rfl (lv_at hl 3 rfl) ?_
    obtain ⟨w_5, ew_5, hw_5, hr⟩ := wr_e hr
    refine va_iast hx hb hK hP (hD.fst rfl) hS 1 0 rfl rfl hw_5 dX1_add_45 (fun H locs hP _ hS => ?_)
    rw [← ew_5] at hP
    have hP : va_P (dC, dI) vwCl [(a_o, .inr (0, [.ref a_o_numbers, .int o_size])), (a_o_numbers, .inl (cI, n_o_numbers, .inl w_5))] H := hP
    refine lv_aload_n hx hb dX1_add_46 rfl (lv_at hl 1 rfl) ?_
    refine va_get (D := (dC, dI)) (ci := 0) (v := .ref a_o_numbers) (C := RX1) (T := TX1) (N := 2) hx hb hts iX1 hown hK hP 0 rfl rfl 0 (by decide) (hts (.fieldLink RX1 20 "PascalRows$Lines" "numbers" "[I") (List.mem_of_getElem? (i := 2) rfl)) (fun _ h9 => h9) rfl dX1_add_47 ?_
    refine lv_iload hx hb dX1_add_50 (lv_at hl 0 rfl) ?_
    refine lv_iconst (v := (2 : Int32)) hx hb dX1_add_52 (by decide) ?_
    refine lv_iadd hx hb dX1_add_53 ?_
    refine lv_iload_n hx hb dX1_add_54 rfl (lv_at hl 4 rfl) ?_
    obtain ⟨w_6, ew_6, hw_6, hr⟩ := wr_e hr
    refine va_iast hx hb hK hP (hD.fst rfl) hS 1 0 rfl rfl hw_6 dX1_add_55 (fun H locs hP _ hS => ?_)
    rw [← ew_6] at hP
    have hP : va_P (dC, dI) vwCl [(a_o, .inr (0, [.ref a_o_numbers, .int o_size])), (a_o_numbers, .inl (cI, n_o_numbers, .inl w_6))] H := hP
    refine lv_aload_n hx hb dX1_add_56 rfl (lv_at hl 1 rfl) ?_
    refine lv_dup hx hb dX1_add_57 rfl ?_
    refine va_get (D := (dC, dI)) (ci := 0) (v := .int o_size) (C := RX1) (T := TX1) (N := 2) hx hb hts iX1 hown hK hP 0 rfl rfl 1 (by decide) (hts (.fieldLink RX1 24 "PascalRows$Lines" "size" "I") (List.mem_of_getElem? (i := 1) rfl)) (fun _ h9 => h9) rfl dX1_add_58 ?_
    refine lv_iconst (v := (1 : Int32)) hx hb dX1_add_61 (by decide) ?_
    refine lv_iadd hx hb dX1_add_62 ?_
    refine va_put (D := (dC, dI)) (ci := 0) (v := .int (o_size + (1 : Int32))) (ty := .int) (C := RX1) (T := TX1) (N := 2) hx hb hts iX1 tyX1 tyX1_ok nmX1 hown hK hP (hD.fst rfl) hS 0 rfl rfl 1 (by decide) (hts (.fieldLink RX1 24 "PascalRows$Lines" "size" "I") (List.mem_of_getElem? (i := 1) rfl)) (fun _ h9 => h9) rfl (by decide +kernel) rfl rfl (Nat.le_of_ble_eq_true rfl) dX1_add_63 (fun H locs hP _ hS => ?_)
    have hP : va_P (dC, dI) vwCl [(a_o, .inr (0, [.ref a_o_numbers, .int (o_size + (1 : Int32))])), (a_o_numbers, .inl (cI, n_o_numbers, .inl w_6))] H := hP
    refine lv_aload_n hx hb dX1_add_66 rfl (lv_at hl 1 rfl) ?_
    refine va_get (D := (dC, dI)) (ci := 0) (v := .int (o_size + (1 : Int32))) (C := RX1) (T := TX1) (N := 2) hx hb hts iX1 hown hK hP 0 rfl rfl 1 (by decide) (hts (.fieldLink RX1 24 "PascalRows$Lines" "size" "I") (List.mem_of_getElem? (i := 1) rfl)) (fun _ h9 => h9) rfl dX1_add_67 ?_
    obtain rfl := Option.some.inj hr
    exact hret H locs _ hP hS (fun Qc free hq hf => W.iret hx hb hrt hq hf dX1_add_70 hlocks)
  refine lv_if_lt (tgt := 25) hx hb dX1_add_10 (by decide) (fun c_7 => ?_) (fun c_7 => ?_)
  · exact tT_2 (Or.inl c_7)
  · refine lv_iload hx hb dX1_add_13 (lv_at hl 0 rfl) ?_
    refine lv_aload_n hx hb dX1_add_15 rfl (lv_at hl 1 rfl) ?_
    refine va_get (D := (dC, dI)) (ci := 0) (v := .ref a_o_numbers) (C := RX1) (T := TX1) (N := 2) hx hb hts iX1 hown hK hP 0 rfl rfl 0 (by decide) (hts (.fieldLink RX1 20 "PascalRows$Lines" "numbers" "[I") (List.mem_of_getElem? (i := 2) rfl)) (fun _ h9 => h9) rfl dX1_add_16 ?_
    refine va_alen (v := (Int32.ofNat n_o_numbers)) hx hb hK hP 1 0 rfl rfl rfl dX1_add_19 ?_
    refine lv_iconst (v := (3 : Int32)) hx hb dX1_add_20 (by decide) ?_
    refine lv_isub hx hb dX1_add_21 ?_
    refine lv_icmp_le (tgt := 28) hx hb dX1_add_22 (by decide) (fun c_8 => ?_) (fun c_8 => ?_)
    · exact tF_3 (fun h => h.elim c_7 (fun h => h c_8))
    · exact tT_2 (Or.inr c_8)
/-! X1_number -/
def rmX1_number : Room := { frames := 1, cells := 0, slots := 0, locals := 22 }
set_option maxHeartbeats 4000000 in
set_option maxRecDepth 100000 in
theorem k_X1_number (l : Launch) (dC : Nat → ClassId) (dI : Nat → Nat → Nat) (cI cJ : ClassId) (a_o : Nat) (a_o_numbers : Nat) (p0 : Int32) (p1 : Int32) (n_o_numbers : Nat) (o_size : Int32) (o_numbers : Nat → Int32) (r : Int32) (hr : f_X1_number p0 p1 n_o_numbers o_numbers o_size = some r) : Met l yX1_number wsX1_number rmX1_number (va_Pc [.ref a_o, .int p0, .int p1] (pE (dC, dI) cI cJ [(a_o, .inr (0, [.ref a_o_numbers, .int o_size])), (a_o_numbers, .inl (cI, n_o_numbers, .inl o_numbers))])) (rq (.int r)) 0 0 nofree := by
  refine ro_of_i (cc := cX1_number) (maxL := 4) (by decide) rfl (Nat.le_of_ble_eq_true rfl) ?_
  intro p e s m args below meth c Q ls hx hb hml hown hts hE hP hret hl
  have hK := hE.1
  have hl : lv_has ls 4 [(0, .ref a_o), (1, .int p0), (2, .int p1)] := hl
  unfold f_X1_number at hr
  have iX1 : ∀ w ∈ wsX10, w ∈ wsX1_number := memr_ (big := wsX1_number) wsX10 [6, 7] (by decide +kernel)
  refine lv_iload_n hx hb dX1_number_0 rfl (lv_at hl 1 rfl) ?_
  refine lv_iconst (v := (0 : Int32)) hx hb dX1_number_1 (by decide) ?_
  refine lv_aload_n hx hb dX1_number_2 rfl (lv_at hl 0 rfl) ?_
  refine va_get (D := (dC, dI)) (ci := 0) (v := .int o_size) (C := RX1) (T := TX1) (N := 2) hx hb hts iX1 hown hK hP 0 rfl rfl 1 (by decide) (hts (.fieldLink RX1 24 "PascalRows$Lines" "size" "I") (List.mem_of_getElem? (i := 1) rfl)) (fun _ h9 => h9) rfl dX1_number_3 ?_
  refine lv_iconst (v := (1 : Int32)) hx hb dX1_number_6 (by decide) ?_
  refine lv_isub hx hb dX1_number_7 ?_
  refine ro_SN ⟨hx, hb, hml, hown, hts⟩ (k_X6_isWithin l dC dI cI cJ p0 (0 : Int32) (o_size - (1 : Int32))) ⟨va_cnB 3 hts gX1_number_X6_isWithin_n28 rfl rfl rfl (hE.nw 15 rfl) (hts (.initialized RX6) (List.mem_of_getElem? (i := 4) rfl)) (by decide +kernel) ⟨Nat.le_of_ble_eq_true rfl, Nat.le_of_ble_eq_true rfl⟩, (hts (.static yX6_isWithin) (List.mem_of_getElem? (i := 3) rfl)), trivial⟩ hE (hP.sub [] rfl) rfl hl.1 rfl (Nat.le_of_ble_eq_true rfl) dX1_number_8 ⟨Nat.zero_le _, Nat.zero_le _⟩ ?_
  have tT_2 : (((f_X6_isWithin p0 (0 : Int32) (o_size - (1 : Int32))) = 0) ∨ ((f_X6_isWithin p1 (0 : Int32) (2 : Int32)) = 0)) → W p l e rmX1_number s m args below meth c s.heap [] 0 0 Q (F0 m 23 ls []) := by
    intro hc_1
    have hr := ite_p hr hc_1
    refine lv_iconst (v := (0 : Int32)) hx hb dX1_number_23 (by decide) ?_
    exact hret 24 ls _ dX1_number_24 (Option.some.inj hr)
  have tF_3 : ¬ (((f_X6_isWithin p0 (0 : Int32) (o_size - (1 : Int32))) = 0) ∨ ((f_X6_isWithin p1 (0 : Int32) (2 : Int32)) = 0)) → W p l e rmX1_number s m args below meth c s.heap [] 0 0 Q (F0 m 25 ls []) := by
    intro hc_1
    have hr := ite_n hr hc_1
    refine lv_iconst (v := (3 : Int32)) hx hb dX1_number_25 (by decide) ?_
    refine lv_iload_n hx hb dX1_number_26 rfl (lv_at hl 1 rfl) ?_
    refine lv_imul hx hb dX1_number_27 ?_
    refine lv_iload_n hx hb dX1_number_28 rfl (lv_at hl 2 rfl) ?_
    refine lv_iadd hx hb dX1_number_29 ?_
    refine lv_istore_n (lv' := [(3, .int (((3 : Int32) * p0) + p1)), (0, .ref a_o), (1, .int p0), (2, .int p1)]) hx hb dX1_number_30 rfl hl (by decide) rfl (fun ls hl => ?_)
    refine lv_iload_n hx hb dX1_number_31 rfl (lv_at hl 0 rfl) ?_
    have tT_5 : ((¬ ((((3 : Int32) * p0) + p1) < 0)) ∧ (¬ ((Int32.ofNat n_o_numbers) ≤ (((3 : Int32) * p0) + p1)))) → W p l e rmX1_number s m args below meth c s.heap [] 0 0 Q (F0 m 44 ls []) := by
      intro hc_4
      have hr := ite_p hr hc_4
      refine lv_aload_n hx hb dX1_number_44 rfl (lv_at hl 1 rfl) ?_
      refine va_get (D := (dC, dI)) (ci := 0) (v := .ref a_o_numbers) (C := RX1) (T := TX1) (N := 2) hx hb hts iX1 hown hK hP 0 rfl rfl 0 (by decide) (hts (.fieldLink RX1 20 "PascalRows$Lines" "numbers" "[I") (List.mem_of_getElem? (i := 2) rfl)) (fun _ h9 => h9) rfl dX1_number_45 ?_
      refine lv_iload_n hx hb dX1_number_48 rfl (lv_at hl 0 rfl) ?_
      obtain ⟨g_6, eg_6, hg_6, hr⟩ := rd_e hr
      refine va_iald hx hb hK hP 1 0 rfl rfl hg_6 dX1_number_49 ?_
      refine tp_ eg_6 ?_
      refine lv_goto (tgt := 54) hx hb dX1_number_50 (by decide) ?_
      exact hret 54 ls _ dX1_number_54 (Option.some.inj hr)
    have tF_7 : ¬ ((¬ ((((3 : Int32) * p0) + p1) < 0)) ∧ (¬ ((Int32.ofNat n_o_numbers) ≤ (((3 : Int32) * p0) + p1)))) → W p l e rmX1_number s m args below meth c s.heap [] 0 0 Q (F0 m 53 ls []) := by
      intro hc_4
      have hr := ite_n hr hc_4
      refine lv_iconst (v := (0 : Int32)) hx hb dX1_number_53 (by decide) ?_
      exact hret 54 ls _ dX1_number_54 (Option.some.inj hr)
    refine lv_if_lt (tgt := 53) hx hb dX1_number_32 (by decide) (fun c_8 => ?_) (fun c_8 => ?_)
    · exact tF_7 (fun h => (fun h => h c_8) h.1)
    · refine lv_iload_n hx hb dX1_number_35 rfl (lv_at hl 0 rfl) ?_
      refine lv_aload_n hx hb dX1_number_36 rfl (lv_at hl 1 rfl) ?_
      refine va_get (D := (dC, dI)) (ci := 0) (v := .ref a_o_numbers) (C := RX1) (T := TX1) (N := 2) hx hb hts iX1 hown hK hP 0 rfl rfl 0 (by decide) (hts (.fieldLink RX1 20 "PascalRows$Lines" "numbers" "[I") (List.mem_of_getElem? (i := 2) rfl)) (fun _ h9 => h9) rfl dX1_number_37 ?_
      refine va_alen (v := (Int32.ofNat n_o_numbers)) hx hb hK hP 1 0 rfl rfl rfl dX1_number_40 ?_
      refine lv_icmp_ge (tgt := 53) hx hb dX1_number_41 (by decide) (fun c_9 => ?_) (fun c_9 => ?_)
      · exact tF_7 (fun h => (fun h => h c_9) h.2)
      · exact tT_5 ⟨c_8, c_9⟩
  refine lv_if_eq (tgt := 23) hx hb dX1_number_11 (by decide) (fun c_10 => ?_) (fun c_10 => ?_)
  · exact tT_2 (Or.inl c_10)
  · refine lv_iload_n hx hb dX1_number_14 rfl (lv_at hl 2 rfl) ?_
    refine lv_iconst (v := (0 : Int32)) hx hb dX1_number_15 (by decide) ?_
    refine lv_iconst (v := (2 : Int32)) hx hb dX1_number_16 (by decide) ?_
    refine ro_SN ⟨hx, hb, hml, hown, hts⟩ (k_X6_isWithin l dC dI cI cJ p1 (0 : Int32) (2 : Int32)) ⟨va_cnB 3 hts gX1_number_X6_isWithin_n28 rfl rfl rfl (hE.nw 15 rfl) (hts (.initialized RX6) (List.mem_of_getElem? (i := 4) rfl)) (by decide +kernel) ⟨Nat.le_of_ble_eq_true rfl, Nat.le_of_ble_eq_true rfl⟩, (hts (.static yX6_isWithin) (List.mem_of_getElem? (i := 3) rfl)), trivial⟩ hE (hP.sub [] rfl) rfl hl.1 rfl (Nat.le_of_ble_eq_true rfl) dX1_number_17 ⟨Nat.zero_le _, Nat.zero_le _⟩ ?_
    refine lv_if_ne (tgt := 25) hx hb dX1_number_20 (by decide) (fun c_11 => ?_) (fun c_11 => ?_)
    · exact tF_3 (fun h => h.elim c_10 c_11)
    · exact tT_2 (Or.inr c_11)
/-! X1_remove -/
def rmX1_remove : Room := { frames := 1, cells := 0, slots := 0, locals := 60 }
set_option maxHeartbeats 4000000 in
set_option maxRecDepth 100000 in
theorem k_X1_remove (l : Launch) (dC : Nat → ClassId) (dI : Nat → Nat → Nat) (cI cJ : ClassId) (a_o : Nat) (a_o_numbers : Nat) (p0 : Int32) (n_o_numbers : Nat) (o_size : Int32) (o_numbers : Nat → Int32) (sz : Nat) (r : (Nat → Int32) × Int32) (hr : f_X1_remove p0 n_o_numbers o_numbers o_size = some r) : Met l yX1_remove wsX1_remove rmX1_remove (va_Pc [.ref a_o, .int p0] (pM (dC, dI) cI cJ [(a_o, .inr (0, [.ref a_o_numbers, .int o_size])), (a_o_numbers, .inl (cI, n_o_numbers, .inl o_numbers))] sz)) (qM none (dC, dI) [(a_o, .inr (0, [.ref a_o_numbers, .int r.2])), (a_o_numbers, .inl (cI, n_o_numbers, .inl r.1))] (va_A [(a_o, .inr (0, [.ref a_o_numbers, .int o_size])), (a_o_numbers, .inl (cI, n_o_numbers, .inl o_numbers))] sz)) 0 0 (va_A [(a_o, .inr (0, [.ref a_o_numbers, .int o_size])), (a_o_numbers, .inl (cI, n_o_numbers, .inl o_numbers))] sz) := by
  refine mu_of (cc := cX1_remove) (maxL := 4) (by decide) rfl (Nat.le_of_ble_eq_true rfl) ?_
  intro p e s m args below meth c Q ls A hx hb hml hown hts hE hP hD hA hrt hlocks hret hl
  have hK := hE.1
  have hS : va_S A s.heap s.heap [] := va_S.rf
  have hl : lv_has ls 4 [(0, .ref a_o), (1, .int p0)] := hl
  unfold f_X1_remove at hr
  obtain ⟨H, hHe⟩ : ∃ H, H = s.heap := ⟨_, rfl⟩
  obtain ⟨locs, hLe⟩ : ∃ locs : List Loc, locs = [] := ⟨_, rfl⟩
  suffices hgo : va_P (dC, dI) vwCl [(a_o, .inr (0, [.ref a_o_numbers, .int o_size])), (a_o_numbers, .inl (cI, n_o_numbers, .inl o_numbers))] H → va_S A s.heap H locs → W p l e rmX1_remove s m args below meth c H locs 0 0 Q (F0 m 0 ls []) by
    subst hHe; subst hLe; exact hgo hP hS
  clear hP hS hHe hLe
  intro hP hS
  have iX1 : ∀ w ∈ wsX10, w ∈ wsX1_remove := memr_ (big := wsX1_remove) wsX10 [10, 11] (by decide +kernel)
  refine lv_iload_n hx hb dX1_remove_0 rfl (lv_at hl 1 rfl) ?_
  refine lv_iconst (v := (0 : Int32)) hx hb dX1_remove_1 (by decide) ?_
  refine lv_aload_n hx hb dX1_remove_2 rfl (lv_at hl 0 rfl) ?_
  refine va_get (D := (dC, dI)) (ci := 0) (v := .int o_size) (C := RX1) (T := TX1) (N := 2) hx hb hts iX1 hown hK hP 0 rfl rfl 1 (by decide) (hts (.fieldLink RX1 24 "PascalRows$Lines" "size" "I") (List.mem_of_getElem? (i := 1) rfl)) (fun _ h9 => h9) rfl dX1_remove_3 ?_
  refine lv_iconst (v := (1 : Int32)) hx hb dX1_remove_6 (by decide) ?_
  refine lv_isub hx hb dX1_remove_7 ?_
  refine ro_SN ⟨hx, hb, hml, hown, hts⟩ (k_X6_isWithin l dC dI cI cJ p0 (0 : Int32) (o_size - (1 : Int32))) ⟨va_cnB 3 hts gX1_remove_X6_isWithin_n28 rfl rfl rfl (hE.nw 15 rfl) (hts (.initialized RX6) (List.mem_of_getElem? (i := 8) rfl)) (by decide +kernel) ⟨Nat.le_of_ble_eq_true rfl, Nat.le_of_ble_eq_true rfl⟩, (hts (.static yX6_isWithin) (List.mem_of_getElem? (i := 7) rfl)), trivial⟩ hE (hP.sub [] rfl) rfl hl.1 rfl (Nat.le_of_ble_eq_true rfl) dX1_remove_8 ⟨Nat.zero_le _, Nat.zero_le _⟩ ?_
  refine lv_if_ne (tgt := 15) hx hb dX1_remove_11 (by decide) (fun c_1 => ?_) (fun c_1 => ?_)
  · have hr := ite_n hr c_1
    refine lv_iconst (v := (3 : Int32)) hx hb dX1_remove_15 (by decide) ?_
    refine lv_iload_n hx hb dX1_remove_16 rfl (lv_at hl 1 rfl) ?_
    refine lv_imul hx hb dX1_remove_17 ?_
    refine lv_istore_n (lv' := [(2, .int ((3 : Int32) * p0)), (0, .ref a_o), (1, .int p0)]) hx hb dX1_remove_18 rfl hl (by decide) rfl (fun ls hl => ?_)
    refine lv_iconst (v := (3 : Int32)) hx hb dX1_remove_19 (by decide) ?_
    refine lv_aload_n hx hb dX1_remove_20 rfl (lv_at hl 1 rfl) ?_
    refine va_get (D := (dC, dI)) (ci := 0) (v := .int o_size) (C := RX1) (T := TX1) (N := 2) hx hb hts iX1 hown hK hP 0 rfl rfl 1 (by decide) (hts (.fieldLink RX1 24 "PascalRows$Lines" "size" "I") (List.mem_of_getElem? (i := 1) rfl)) (fun _ h9 => h9) rfl dX1_remove_21 ?_
    refine lv_iconst (v := (1 : Int32)) hx hb dX1_remove_24 (by decide) ?_
    refine lv_isub hx hb dX1_remove_25 ?_
    refine lv_iload_n hx hb dX1_remove_26 rfl (lv_at hl 2 rfl) ?_
    refine lv_isub hx hb dX1_remove_27 ?_
    refine lv_imul hx hb dX1_remove_28 ?_
    refine lv_istore_n (lv' := [(3, .int ((3 : Int32) * ((o_size - (1 : Int32)) - p0))), (2, .int ((3 : Int32) * p0)), (0, .ref a_o), (1, .int p0)]) hx hb dX1_remove_29 rfl hl (by decide) rfl (fun ls hl => ?_)
    refine lv_iload_n hx hb dX1_remove_30 rfl (lv_at hl 1 rfl) ?_
    have tT_3 : ((¬ (((3 : Int32) * p0) < 0)) ∧ ((¬ (((3 : Int32) * ((o_size - (1 : Int32)) - p0)) < 0)) ∧ (¬ ((((Int32.ofNat n_o_numbers) - (3 : Int32)) - ((3 : Int32) * p0)) < ((3 : Int32) * ((o_size - (1 : Int32)) - p0)))))) → W p l e rmX1_remove s m args below meth c H locs 0 0 Q (F0 m 51 ls []) := by
      intro hc_2
      have hr := ite_p hr hc_2
      refine lv_aload_n hx hb dX1_remove_51 rfl (lv_at hl 2 rfl) ?_
      refine va_get (D := (dC, dI)) (ci := 0) (v := .ref a_o_numbers) (C := RX1) (T := TX1) (N := 2) hx hb hts iX1 hown hK hP 0 rfl rfl 0 (by decide) (hts (.fieldLink RX1 20 "PascalRows$Lines" "numbers" "[I") (List.mem_of_getElem? (i := 2) rfl)) (fun _ h9 => h9) rfl dX1_remove_52 ?_
      refine lv_iload_n hx hb dX1_remove_55 rfl (lv_at hl 1 rfl) ?_
      refine lv_iconst (v := (3 : Int32)) hx hb dX1_remove_56 (by decide) ?_
      refine lv_iadd hx hb dX1_remove_57 ?_
      refine lv_aload_n hx hb dX1_remove_58 rfl (lv_at hl 2 rfl) ?_
      refine va_get (D := (dC, dI)) (ci := 0) (v := .ref a_o_numbers) (C := RX1) (T := TX1) (N := 2) hx hb hts iX1 hown hK hP 0 rfl rfl 0 (by decide) (hts (.fieldLink RX1 20 "PascalRows$Lines" "numbers" "[I") (List.mem_of_getElem? (i := 2) rfl)) (fun _ h9 => h9) rfl dX1_remove_59 ?_
      refine lv_iload_n hx hb dX1_remove_62 rfl (lv_at hl 1 rfl) ?_
      refine lv_iload_n hx hb dX1_remove_63 rfl (lv_at hl 0 rfl) ?_
      obtain ⟨w_4, ew_4, hw_4, hr⟩ := cpI_e hr
      refine va_copyi hx hb (hml.trans hl.1.symm) hown (hts (.methodLink RX1 32 arraycopyName) (List.mem_of_getElem? (i := 3) rfl)) (hts (.native arraycopyName) (List.mem_of_getElem? (i := 4) rfl)) (hts (.static arraycopyName) (List.mem_of_getElem? (i := 5) rfl)) (hts (.initialized "java/lang/System") (List.mem_of_getElem? (i := 6) rfl)) hK hP (hD.fst rfl) hS 1 1 0 0 rfl rfl rfl rfl rfl hw_4.1 hw_4.2.1 hw_4.2.2.1 hw_4.2.2.2.1 hw_4.2.2.2.2 (fun _ _ => rfl) (Nat.le_of_ble_eq_true rfl) (Nat.le_of_ble_eq_true rfl) dX1_remove_64 (fun H locs hP _ hS => ?_)
      rw [← ew_4] at hP
      have hP : va_P (dC, dI) vwCl [(a_o, .inr (0, [.ref a_o_numbers, .int o_size])), (a_o_numbers, .inl (cI, n_o_numbers, .inl w_4))] H := hP
      refine lv_aload_n hx hb dX1_remove_67 rfl (lv_at hl 2 rfl) ?_
      refine lv_dup hx hb dX1_remove_68 rfl ?_
      refine va_get (D := (dC, dI)) (ci := 0) (v := .int o_size) (C := RX1) (T := TX1) (N := 2) hx hb hts iX1 hown hK hP 0 rfl rfl 1 (by decide) (hts (.fieldLink RX1 24 "PascalRows$Lines" "size" "I") (List.mem_of_getElem? (i := 1) rfl)) (fun _ h9 => h9) rfl dX1_remove_69 ?_
      refine lv_iconst (v := (1 : Int32)) hx hb dX1_remove_72 (by decide) ?_
      refine lv_isub hx hb dX1_remove_73 ?_
      refine va_put (D := (dC, dI)) (ci := 0) (v := .int (o_size - (1 : Int32))) (ty := .int) (C := RX1) (T := TX1) (N := 2) hx hb hts iX1 tyX1 tyX1_ok nmX1 hown hK hP (hD.fst rfl) hS 0 rfl rfl 1 (by decide) (hts (.fieldLink RX1 24 "PascalRows$Lines" "size" "I") (List.mem_of_getElem? (i := 1) rfl)) (fun _ h9 => h9) rfl (by decide +kernel) rfl rfl (Nat.le_of_ble_eq_true rfl) dX1_remove_74 (fun H locs hP _ hS => ?_)
      have hP : va_P (dC, dI) vwCl [(a_o, .inr (0, [.ref a_o_numbers, .int (o_size - (1 : Int32))])), (a_o_numbers, .inl (cI, n_o_numbers, .inl w_4))] H := hP
      obtain rfl := Option.some.inj hr
      exact hret H locs _ hP hS (fun Qc free hq hf => W.vret hx hb hrt hq hf dX1_remove_77 hlocks)
    have tF_5 : ¬ ((¬ (((3 : Int32) * p0) < 0)) ∧ ((¬ (((3 : Int32) * ((o_size - (1 : Int32)) - p0)) < 0)) ∧ (¬ ((((Int32.ofNat n_o_numbers) - (3 : Int32)) - ((3 : Int32) * p0)) < ((3 : Int32) * ((o_size - (1 : Int32)) - p0)))))) → W p l e rmX1_remove s m args below meth c H locs 0 0 Q (F0 m 77 ls []) := by
      intro hc_2
      have hr := ite_n hr hc_2
      obtain rfl := Option.some.inj hr
      exact hret H locs _ hP hS (fun Qc free hq hf => W.vret hx hb hrt hq hf dX1_remove_77 hlocks)
    refine lv_if_lt (tgt := 77) hx hb dX1_remove_31 (by decide) (fun c_6 => ?_) (fun c_6 => ?_)
    · exact tF_5 (fun h => (fun h => h c_6) h.1)
    · refine lv_iload_n hx hb dX1_remove_34 rfl (lv_at hl 0 rfl) ?_
      refine lv_if_lt (tgt := 77) hx hb dX1_remove_35 (by decide) (fun c_7 => ?_) (fun c_7 => ?_)
      · exact tF_5 (fun h => (fun h => (fun h => h c_7) h.1) h.2)
      · refine lv_iload_n hx hb dX1_remove_38 rfl (lv_at hl 0 rfl) ?_
        refine lv_aload_n hx hb dX1_remove_39 rfl (lv_at hl 2 rfl) ?_
        refine va_get (D := (dC, dI)) (ci := 0) (v := .ref a_o_numbers) (C := RX1) (T := TX1) (N := 2) hx hb hts iX1 hown hK hP 0 rfl rfl 0 (by decide) (hts (.fieldLink RX1 20 "PascalRows$Lines" "numbers" "[I") (List.mem_of_getElem? (i := 2) rfl)) (fun _ h9 => h9) rfl dX1_remove_40 ?_
        refine va_alen (v := (Int32.ofNat n_o_numbers)) hx hb hK hP 1 0 rfl rfl rfl dX1_remove_43 ?_
        refine lv_iconst (v := (3 : Int32)) hx hb dX1_remove_44 (by decide) ?_
        refine lv_isub hx hb dX1_remove_45 ?_
        refine lv_iload_n hx hb dX1_remove_46 rfl (lv_at hl 1 rfl) ?_
        refine lv_isub hx hb dX1_remove_47 ?_
        refine lv_icmp_gt (tgt := 77) hx hb dX1_remove_48 (by decide) (fun c_8 => ?_) (fun c_8 => ?_)
        · exact tF_5 (fun h => (fun h => (fun h => h c_8) h.2) h.2)
        · exact tT_3 ⟨c_6, ⟨c_7, c_8⟩⟩
  · have hr := ite_p hr c_1
    obtain rfl := Option.some.inj hr
    exact hret H locs _ hP hS (fun Qc free hq hf => W.vret hx hb hrt hq hf dX1_remove_14 hlocks)
/-! X1_empty -/
def rmX1_empty : Room := { frames := 0, cells := 0, slots := 0, locals := 0 }
set_option maxHeartbeats 4000000 in
set_option maxRecDepth 100000 in
theorem k_X1_empty (l : Launch) (dC : Nat → ClassId) (dI : Nat → Nat → Nat) (cI cJ : ClassId) (a_o : Nat) (a_o_numbers : Nat) (o_size : Int32) (sz : Nat) (r : Int32) (hr : f_X1_empty o_size = some r) : Met l yX1_empty wsX1_empty rmX1_empty (va_Pc [.ref a_o] (pM (dC, dI) cI cJ [(a_o, .inr (0, [.ref a_o_numbers, .int o_size]))] sz)) (qM none (dC, dI) [(a_o, .inr (0, [.ref a_o_numbers, .int r]))] (va_A [(a_o, .inr (0, [.ref a_o_numbers, .int o_size]))] sz)) 0 0 (va_A [(a_o, .inr (0, [.ref a_o_numbers, .int o_size]))] sz) := by
  refine mu_of (cc := cX1_empty) (maxL := 1) (by decide) rfl (Nat.le_of_ble_eq_true rfl) ?_
  intro p e s m args below meth c Q ls A hx hb hml hown hts hE hP hD hA hrt hlocks hret hl
  have hK := hE.1
  have hS : va_S A s.heap s.heap [] := va_S.rf
  have hl : lv_has ls 1 [(0, .ref a_o)] := hl
  unfold f_X1_empty at hr
  obtain ⟨H, hHe⟩ : ∃ H, H = s.heap := ⟨_, rfl⟩
  obtain ⟨locs, hLe⟩ : ∃ locs : List Loc, locs = [] := ⟨_, rfl⟩
  suffices hgo : va_P (dC, dI) vwCl [(a_o, .inr (0, [.ref a_o_numbers, .int o_size]))] H → va_S A s.heap H locs → W p l e rmX1_empty s m args below meth c H locs 0 0 Q (F0 m 0 ls []) by
    subst hHe; subst hLe; exact hgo hP hS
  clear hP hS hHe hLe
  intro hP hS
  have iX1 : ∀ w ∈ wsX10, w ∈ wsX1_empty := memr_ (big := wsX1_empty) wsX10 [2, 3] (by decide +kernel)
  refine lv_aload_n hx hb dX1_empty_0 rfl (lv_at hl 0 rfl) ?_
  refine lv_iconst (v := (0 : Int32)) hx hb dX1_empty_1 (by decide) ?_
  refine va_put (D := (dC, dI)) (ci := 0) (v := .int (0 : Int32)) (ty := .int) (C := RX1) (T := TX1) (N := 2) hx hb hts iX1 tyX1 tyX1_ok nmX1 hown hK hP (hD.fst rfl) hS 0 rfl rfl 1 (by decide) (hts (.fieldLink RX1 24 "PascalRows$Lines" "size" "I") (List.mem_of_getElem? (i := 1) rfl)) (fun _ h9 => h9) rfl (by decide +kernel) rfl rfl (Nat.le_of_ble_eq_true rfl) dX1_empty_2 (fun H locs hP _ hS => ?_)
  have hP : va_P (dC, dI) vwCl [(a_o, .inr (0, [.ref a_o_numbers, .int (0 : Int32)]))] H := hP
  obtain rfl := Option.some.inj hr
  exact hret H locs _ hP hS (fun Qc free hq hf => W.vret hx hb hrt hq hf dX1_empty_5 hlocks)
/-! X1_copyFrom -/
def rmX1_copyFrom : Room := { frames := 1, cells := 0, slots := 0, locals := 60 }
set_option maxHeartbeats 4000000 in
set_option maxRecDepth 100000 in
theorem k_X1_copyFrom (l : Launch) (dC : Nat → ClassId) (dI : Nat → Nat → Nat) (cI cJ : ClassId) (a_o : Nat) (a_o_numbers : Nat) (a_b : Nat) (a_b_numbers : Nat) (n_o_numbers : Nat) (n_b_numbers : Nat) (o_size : Int32) (o_numbers : Nat → Int32) (b_size : Int32) (b_numbers : Nat → Int32) (sz : Nat) (r : (Nat → Int32) × Int32) (hr : f_X1_copyFrom n_o_numbers n_b_numbers o_numbers o_size b_numbers b_size = some r) : Met l yX1_copyFrom wsX1_copyFrom rmX1_copyFrom (va_Pc [.ref a_o, .ref a_b] (pM (dC, dI) cI cJ [(a_o, .inr (0, [.ref a_o_numbers, .int o_size])), (a_o_numbers, .inl (cI, n_o_numbers, .inl o_numbers)), (a_b, .inr (0, [.ref a_b_numbers, .int b_size])), (a_b_numbers, .inl (cI, n_b_numbers, .inl b_numbers))] sz)) (qM none (dC, dI) [(a_o, .inr (0, [.ref a_o_numbers, .int r.2])), (a_o_numbers, .inl (cI, n_o_numbers, .inl r.1)), (a_b, .inr (0, [.ref a_b_numbers, .int b_size])), (a_b_numbers, .inl (cI, n_b_numbers, .inl b_numbers))] (va_A [(a_o, .inr (0, [.ref a_o_numbers, .int o_size])), (a_o_numbers, .inl (cI, n_o_numbers, .inl o_numbers)), (a_b, .inr (0, [.ref a_b_numbers, .int b_size])), (a_b_numbers, .inl (cI, n_b_numbers, .inl b_numbers))] sz)) 0 0 (va_A [(a_o, .inr (0, [.ref a_o_numbers, .int o_size])), (a_o_numbers, .inl (cI, n_o_numbers, .inl o_numbers)), (a_b, .inr (0, [.ref a_b_numbers, .int b_size])), (a_b_numbers, .inl (cI, n_b_numbers, .inl b_numbers))] sz) := by
  refine mu_of (cc := cX1_copyFrom) (maxL := 2) (by decide) rfl (Nat.le_of_ble_eq_true rfl) ?_
  intro p e s m args below meth c Q ls A hx hb hml hown hts hE hP hD hA hrt hlocks hret hl
  have hK := hE.1
  have hS : va_S A s.heap s.heap [] := va_S.rf
  have hl : lv_has ls 2 [(0, .ref a_o), (1, .ref a_b)] := hl
  unfold f_X1_copyFrom at hr
  obtain ⟨H, hHe⟩ : ∃ H, H = s.heap := ⟨_, rfl⟩
  obtain ⟨locs, hLe⟩ : ∃ locs : List Loc, locs = [] := ⟨_, rfl⟩
  suffices hgo : va_P (dC, dI) vwCl [(a_o, .inr (0, [.ref a_o_numbers, .int o_size])), (a_o_numbers, .inl (cI, n_o_numbers, .inl o_numbers)), (a_b, .inr (0, [.ref a_b_numbers, .int b_size])), (a_b_numbers, .inl (cI, n_b_numbers, .inl b_numbers))] H → va_S A s.heap H locs → W p l e rmX1_copyFrom s m args below meth c H locs 0 0 Q (F0 m 0 ls []) by
    subst hHe; subst hLe; exact hgo hP hS
  clear hP hS hHe hLe
  intro hP hS
  have iX1 : ∀ w ∈ wsX10, w ∈ wsX1_copyFrom := memr_ (big := wsX1_copyFrom) wsX10 [7, 8] (by decide +kernel)
  refine lv_aload_n hx hb dX1_copyFrom_0 rfl (lv_at hl 1 rfl) ?_
  refine lv_ifnull hx hb dX1_copyFrom_1 ?_
  refine lv_aload_n hx hb dX1_copyFrom_4 rfl (lv_at hl 1 rfl) ?_
  refine va_get (D := (dC, dI)) (ci := 0) (v := .ref a_b_numbers) (C := RX1) (T := TX1) (N := 2) hx hb hts iX1 hown hK hP 2 rfl rfl 0 (by decide) (hts (.fieldLink RX1 20 "PascalRows$Lines" "numbers" "[I") (List.mem_of_getElem? (i := 1) rfl)) (fun _ h9 => h9) rfl dX1_copyFrom_5 ?_
  refine va_alen (v := (Int32.ofNat n_b_numbers)) hx hb hK hP 3 0 rfl rfl rfl dX1_copyFrom_8 ?_
  refine lv_aload_n hx hb dX1_copyFrom_9 rfl (lv_at hl 0 rfl) ?_
  refine va_get (D := (dC, dI)) (ci := 0) (v := .ref a_o_numbers) (C := RX1) (T := TX1) (N := 2) hx hb hts iX1 hown hK hP 0 rfl rfl 0 (by decide) (hts (.fieldLink RX1 20 "PascalRows$Lines" "numbers" "[I") (List.mem_of_getElem? (i := 1) rfl)) (fun _ h9 => h9) rfl dX1_copyFrom_10 ?_
  refine va_alen (v := (Int32.ofNat n_o_numbers)) hx hb hK hP 1 0 rfl rfl rfl dX1_copyFrom_13 ?_
  refine lv_icmp_ne (tgt := 43) hx hb dX1_copyFrom_14 (by decide) (fun c_1 => ?_) (fun c_1 => ?_)
  · have hr := ite_n hr c_1
    obtain rfl := Option.some.inj hr
    exact hret H locs _ hP hS (fun Qc free hq hf => W.vret hx hb hrt hq hf dX1_copyFrom_43 hlocks)
  · have hr := ite_p hr c_1
    refine lv_aload_n hx hb dX1_copyFrom_17 rfl (lv_at hl 1 rfl) ?_
    refine va_get (D := (dC, dI)) (ci := 0) (v := .ref a_b_numbers) (C := RX1) (T := TX1) (N := 2) hx hb hts iX1 hown hK hP 2 rfl rfl 0 (by decide) (hts (.fieldLink RX1 20 "PascalRows$Lines" "numbers" "[I") (List.mem_of_getElem? (i := 1) rfl)) (fun _ h9 => h9) rfl dX1_copyFrom_18 ?_
    refine lv_iconst (v := (0 : Int32)) hx hb dX1_copyFrom_21 (by decide) ?_
    refine lv_aload_n hx hb dX1_copyFrom_22 rfl (lv_at hl 0 rfl) ?_
    refine va_get (D := (dC, dI)) (ci := 0) (v := .ref a_o_numbers) (C := RX1) (T := TX1) (N := 2) hx hb hts iX1 hown hK hP 0 rfl rfl 0 (by decide) (hts (.fieldLink RX1 20 "PascalRows$Lines" "numbers" "[I") (List.mem_of_getElem? (i := 1) rfl)) (fun _ h9 => h9) rfl dX1_copyFrom_23 ?_
    refine lv_iconst (v := (0 : Int32)) hx hb dX1_copyFrom_26 (by decide) ?_
    refine lv_aload_n hx hb dX1_copyFrom_27 rfl (lv_at hl 0 rfl) ?_
    refine va_get (D := (dC, dI)) (ci := 0) (v := .ref a_o_numbers) (C := RX1) (T := TX1) (N := 2) hx hb hts iX1 hown hK hP 0 rfl rfl 0 (by decide) (hts (.fieldLink RX1 20 "PascalRows$Lines" "numbers" "[I") (List.mem_of_getElem? (i := 1) rfl)) (fun _ h9 => h9) rfl dX1_copyFrom_28 ?_
    refine va_alen (v := (Int32.ofNat n_o_numbers)) hx hb hK hP 1 0 rfl rfl rfl dX1_copyFrom_31 ?_
    obtain ⟨w_2, ew_2, hw_2, hr⟩ := cpI_e hr
    refine va_copyi hx hb (hml.trans hl.1.symm) hown (hts (.methodLink RX1 32 arraycopyName) (List.mem_of_getElem? (i := 2) rfl)) (hts (.native arraycopyName) (List.mem_of_getElem? (i := 3) rfl)) (hts (.static arraycopyName) (List.mem_of_getElem? (i := 4) rfl)) (hts (.initialized "java/lang/System") (List.mem_of_getElem? (i := 5) rfl)) hK hP (hD.fst rfl) hS 3 1 0 0 rfl rfl rfl rfl rfl hw_2.1 hw_2.2.1 hw_2.2.2.1 hw_2.2.2.2.1 hw_2.2.2.2.2 (fun _ _ => rfl) (Nat.le_of_ble_eq_true rfl) (Nat.le_of_ble_eq_true rfl) dX1_copyFrom_32 (fun H locs hP _ hS => ?_)
    rw [← ew_2] at hP
    have hP : va_P (dC, dI) vwCl [(a_o, .inr (0, [.ref a_o_numbers, .int o_size])), (a_o_numbers, .inl (cI, n_o_numbers, .inl w_2)), (a_b, .inr (0, [.ref a_b_numbers, .int b_size])), (a_b_numbers, .inl (cI, n_b_numbers, .inl b_numbers))] H := hP
    refine lv_aload_n hx hb dX1_copyFrom_35 rfl (lv_at hl 0 rfl) ?_
    refine lv_aload_n hx hb dX1_copyFrom_36 rfl (lv_at hl 1 rfl) ?_
    refine va_get (D := (dC, dI)) (ci := 0) (v := .int b_size) (C := RX1) (T := TX1) (N := 2) hx hb hts iX1 hown hK hP 2 rfl rfl 1 (by decide) (hts (.fieldLink RX1 24 "PascalRows$Lines" "size" "I") (List.mem_of_getElem? (i := 6) rfl)) (fun _ h9 => h9) rfl dX1_copyFrom_37 ?_
    refine va_put (D := (dC, dI)) (ci := 0) (v := .int b_size) (ty := .int) (C := RX1) (T := TX1) (N := 2) hx hb hts iX1 tyX1 tyX1_ok nmX1 hown hK hP (hD.fst rfl) hS 0 rfl rfl 1 (by decide) (hts (.fieldLink RX1 24 "PascalRows$Lines" "size" "I") (List.mem_of_getElem? (i := 6) rfl)) (fun _ h9 => h9) rfl (by decide +kernel) rfl rfl (Nat.le_of_ble_eq_true rfl) dX1_copyFrom_40 (fun H locs hP _ hS => ?_)
    have hP : va_P (dC, dI) vwCl [(a_o, .inr (0, [.ref a_o_numbers, .int b_size])), (a_o_numbers, .inl (cI, n_o_numbers, .inl w_2)), (a_b, .inr (0, [.ref a_b_numbers, .int b_size])), (a_b_numbers, .inl (cI, n_b_numbers, .inl b_numbers))] H := hP
    obtain rfl := Option.some.inj hr
    exact hret H locs _ hP hS (fun Qc free hq hf => W.vret hx hb hrt hq hf dX1_copyFrom_43 hlocks)
