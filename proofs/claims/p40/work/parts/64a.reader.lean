/-! X2_add -/
def rmX2_add : Room := { frames := 0, cells := 0, slots := 0, locals := 0 }
set_option maxHeartbeats 4000000 in
set_option maxRecDepth 100000 in
theorem k_X2_add (l : Launch) (dC : Nat → ClassId) (dI : Nat → Nat → Nat) (cI cJ : ClassId) (a_o : Nat) (a_o_text : Nat) (a_o_clauses : Nat) (p0 : Int32) (o_length : Int32) (o_next : Int32) (o_text : Nat → Int32) (sz : Nat) (r : Int32 × (Nat → Int32) × Int32) (hr : f_X2_add p0 o_text o_length = some r) : Met l yX2_add wsX2_add rmX2_add (va_Pc [.ref a_o, .int p0] (pM (dC, dI) cI cJ [(a_o, .inr (1, [.ref a_o_text, .ref a_o_clauses, .int o_length, .int o_next])), (a_o_text, .inl (cI, 100, .inl o_text))] sz)) (qM (some (.int r.1)) (dC, dI) [(a_o, .inr (1, [.ref a_o_text, .ref a_o_clauses, .int r.2.2, .int o_next])), (a_o_text, .inl (cI, 100, .inl r.2.1))] (va_A [(a_o, .inr (1, [.ref a_o_text, .ref a_o_clauses, .int o_length, .int o_next])), (a_o_text, .inl (cI, 100, .inl o_text))] sz)) 0 0 (va_A [(a_o, .inr (1, [.ref a_o_text, .ref a_o_clauses, .int o_length, .int o_next])), (a_o_text, .inl (cI, 100, .inl o_text))] sz) := by
  refine mu_of (cc := cX2_add) (maxL := 2) (by decide) rfl (Nat.le_of_ble_eq_true rfl) ?_
  intro p e s m args below meth c Q ls A hx hb hml hown hts hE hP hD hA hrt hlocks hret hl
  have hK := hE.1
  have hS : va_S A s.heap s.heap [] := va_S.rf
  have hl : lv_has ls 2 [(0, .ref a_o), (1, .int p0)] := hl
  unfold f_X2_add at hr
  obtain ⟨H, hHe⟩ : ∃ H, H = s.heap := ⟨_, rfl⟩
  obtain ⟨locs, hLe⟩ : ∃ locs : List Loc, locs = [] := ⟨_, rfl⟩
  suffices hgo : va_P (dC, dI) vwCl [(a_o, .inr (1, [.ref a_o_text, .ref a_o_clauses, .int o_length, .int o_next])), (a_o_text, .inl (cI, 100, .inl o_text))] H → va_S A s.heap H locs → W p l e rmX2_add s m args below meth c H locs 0 0 Q (F0 m 0 ls []) by
    subst hHe; subst hLe; exact hgo hP hS
  clear hP hS hHe hLe
  intro hP hS
  have iX2 : ∀ w ∈ wsX20, w ∈ wsX2_add := memr_ (big := wsX2_add) wsX20 [3, 4, 5, 6] (by decide +kernel)
  refine lv_aload_n hx hb dX2_add_0 rfl (lv_at hl 0 rfl) ?_
  refine va_get (D := (dC, dI)) (ci := 1) (v := .int o_length) (C := RX2) (T := TX2) (N := 4) hx hb hts iX2 hown hK hP 0 rfl rfl 2 (by decide) (hts (.fieldLink RX2 24 "PascalRows$Reader" "length" "I") (List.mem_of_getElem? (i := 1) rfl)) (fun _ h9 => h9) rfl dX2_add_1 ?_
  have tT_2 : ((o_length < 0) ∨ (¬ (o_length < (Int32.ofNat 100)))) → W p l e rmX2_add s m args below meth c H locs 0 0 Q (F0 m 19 ls []) := by
    intro hc_1
    have hr := ite_p hr hc_1
    refine lv_bipush (v := (-4 : Int32)) hx hb dX2_add_19 (by decide) ?_
    obtain rfl := Option.some.inj hr
    exact hret H locs _ hP hS (fun Qc free hq hf => W.iret hx hb hrt hq hf dX2_add_21 hlocks)
  have tF_3 : ¬ ((o_length < 0) ∨ (¬ (o_length < (Int32.ofNat 100)))) → W p l e rmX2_add s m args below meth c H locs 0 0 Q (F0 m 22 ls []) := by
    intro hc_1
    have hr := ite_n hr hc_1
    refine lv_aload_n hx hb dX2_add_22 rfl (lv_at hl 0 rfl) ?_
    refine va_get (D := (dC, dI)) (ci := 1) (v := .ref a_o_text) (C := RX2) (T := TX2) (N := 4) hx hb hts iX2 hown hK hP 0 rfl rfl 0 (by decide) (hts (.fieldLink RX2 11 "PascalRows$Reader" "text" "[I") (List.mem_of_getElem? (i := 2) rfl)) (fun _ h9 => h9) rfl dX2_add_23 ?_
    refine lv_aload_n hx hb dX2_add_26 rfl (lv_at hl 0 rfl) ?_
    refine va_get (D := (dC, dI)) (ci := 1) (v := .int o_length) (C := RX2) (T := TX2) (N := 4) hx hb hts iX2 hown hK hP 0 rfl rfl 2 (by decide) (hts (.fieldLink RX2 24 "PascalRows$Reader" "length" "I") (List.mem_of_getElem? (i := 1) rfl)) (fun _ h9 => h9) rfl dX2_add_27 ?_
    refine lv_iload_n hx hb dX2_add_30 rfl (lv_at hl 1 rfl) ?_
    obtain ⟨w_4, ew_4, hw_4, hr⟩ := wr_e hr
    refine va_iast hx hb hK hP (hD.fst rfl) hS 1 0 rfl rfl hw_4 dX2_add_31 (fun H locs hP _ hS => ?_)
    rw [← ew_4] at hP
    have hP : va_P (dC, dI) vwCl [(a_o, .inr (1, [.ref a_o_text, .ref a_o_clauses, .int o_length, .int o_next])), (a_o_text, .inl (cI, 100, .inl w_4))] H := hP
    refine lv_aload_n hx hb dX2_add_32 rfl (lv_at hl 0 rfl) ?_
    refine lv_dup hx hb dX2_add_33 rfl ?_
    refine va_get (D := (dC, dI)) (ci := 1) (v := .int o_length) (C := RX2) (T := TX2) (N := 4) hx hb hts iX2 hown hK hP 0 rfl rfl 2 (by decide) (hts (.fieldLink RX2 24 "PascalRows$Reader" "length" "I") (List.mem_of_getElem? (i := 1) rfl)) (fun _ h9 => h9) rfl dX2_add_34 ?_
    refine lv_iconst (v := (1 : Int32)) hx hb dX2_add_37 (by decide) ?_
    refine lv_iadd hx hb dX2_add_38 ?_
    refine va_put (D := (dC, dI)) (ci := 1) (v := .int (o_length + (1 : Int32))) (ty := .int) (C := RX2) (T := TX2) (N := 4) hx hb hts iX2 tyX2 tyX2_ok nmX2 hown hK hP (hD.fst rfl) hS 0 rfl rfl 2 (by decide) (hts (.fieldLink RX2 24 "PascalRows$Reader" "length" "I") (List.mem_of_getElem? (i := 1) rfl)) (fun _ h9 => h9) rfl (by decide +kernel) rfl rfl (Nat.le_of_ble_eq_true rfl) dX2_add_39 (fun H locs hP _ hS => ?_)
    have hP : va_P (dC, dI) vwCl [(a_o, .inr (1, [.ref a_o_text, .ref a_o_clauses, .int (o_length + (1 : Int32)), .int o_next])), (a_o_text, .inl (cI, 100, .inl w_4))] H := hP
    refine lv_aload_n hx hb dX2_add_42 rfl (lv_at hl 0 rfl) ?_
    refine va_get (D := (dC, dI)) (ci := 1) (v := .int (o_length + (1 : Int32))) (C := RX2) (T := TX2) (N := 4) hx hb hts iX2 hown hK hP 0 rfl rfl 2 (by decide) (hts (.fieldLink RX2 24 "PascalRows$Reader" "length" "I") (List.mem_of_getElem? (i := 1) rfl)) (fun _ h9 => h9) rfl dX2_add_43 ?_
    obtain rfl := Option.some.inj hr
    exact hret H locs _ hP hS (fun Qc free hq hf => W.iret hx hb hrt hq hf dX2_add_46 hlocks)
  refine lv_if_lt (tgt := 19) hx hb dX2_add_4 (by decide) (fun c_5 => ?_) (fun c_5 => ?_)
  · exact tT_2 (Or.inl c_5)
  · refine lv_aload_n hx hb dX2_add_7 rfl (lv_at hl 0 rfl) ?_
    refine va_get (D := (dC, dI)) (ci := 1) (v := .int o_length) (C := RX2) (T := TX2) (N := 4) hx hb hts iX2 hown hK hP 0 rfl rfl 2 (by decide) (hts (.fieldLink RX2 24 "PascalRows$Reader" "length" "I") (List.mem_of_getElem? (i := 1) rfl)) (fun _ h9 => h9) rfl dX2_add_8 ?_
    refine lv_aload_n hx hb dX2_add_11 rfl (lv_at hl 0 rfl) ?_
    refine va_get (D := (dC, dI)) (ci := 1) (v := .ref a_o_text) (C := RX2) (T := TX2) (N := 4) hx hb hts iX2 hown hK hP 0 rfl rfl 0 (by decide) (hts (.fieldLink RX2 11 "PascalRows$Reader" "text" "[I") (List.mem_of_getElem? (i := 2) rfl)) (fun _ h9 => h9) rfl dX2_add_12 ?_
    refine va_alen (v := (Int32.ofNat 100)) hx hb hK hP 1 0 rfl rfl rfl dX2_add_15 ?_
    refine lv_icmp_lt (tgt := 22) hx hb dX2_add_16 (by decide) (fun c_6 => ?_) (fun c_6 => ?_)
    · exact tF_3 (fun h => h.elim c_5 (fun h => h c_6))
    · exact tT_2 (Or.inr c_6)
/-! X2_emptyText -/
def rmX2_emptyText : Room := { frames := 0, cells := 0, slots := 0, locals := 0 }
set_option maxHeartbeats 4000000 in
set_option maxRecDepth 100000 in
theorem k_X2_emptyText (l : Launch) (dC : Nat → ClassId) (dI : Nat → Nat → Nat) (cI cJ : ClassId) (a_o : Nat) (a_o_text : Nat) (a_o_clauses : Nat) (o_length : Int32) (o_next : Int32) (sz : Nat) (r : Int32) (hr : f_X2_emptyText o_length = some r) : Met l yX2_emptyText wsX2_emptyText rmX2_emptyText (va_Pc [.ref a_o] (pM (dC, dI) cI cJ [(a_o, .inr (1, [.ref a_o_text, .ref a_o_clauses, .int o_length, .int o_next]))] sz)) (qM none (dC, dI) [(a_o, .inr (1, [.ref a_o_text, .ref a_o_clauses, .int r, .int o_next]))] (va_A [(a_o, .inr (1, [.ref a_o_text, .ref a_o_clauses, .int o_length, .int o_next]))] sz)) 0 0 (va_A [(a_o, .inr (1, [.ref a_o_text, .ref a_o_clauses, .int o_length, .int o_next]))] sz) := by
  refine mu_of (cc := cX2_emptyText) (maxL := 1) (by decide) rfl (Nat.le_of_ble_eq_true rfl) ?_
  intro p e s m args below meth c Q ls A hx hb hml hown hts hE hP hD hA hrt hlocks hret hl
  have hK := hE.1
  have hS : va_S A s.heap s.heap [] := va_S.rf
  have hl : lv_has ls 1 [(0, .ref a_o)] := hl
  unfold f_X2_emptyText at hr
  obtain ⟨H, hHe⟩ : ∃ H, H = s.heap := ⟨_, rfl⟩
  obtain ⟨locs, hLe⟩ : ∃ locs : List Loc, locs = [] := ⟨_, rfl⟩
  suffices hgo : va_P (dC, dI) vwCl [(a_o, .inr (1, [.ref a_o_text, .ref a_o_clauses, .int o_length, .int o_next]))] H → va_S A s.heap H locs → W p l e rmX2_emptyText s m args below meth c H locs 0 0 Q (F0 m 0 ls []) by
    subst hHe; subst hLe; exact hgo hP hS
  clear hP hS hHe hLe
  intro hP hS
  have iX2 : ∀ w ∈ wsX20, w ∈ wsX2_emptyText := memr_ (big := wsX2_emptyText) wsX20 [2, 3, 4, 5] (by decide +kernel)
  refine lv_aload_n hx hb dX2_emptyText_0 rfl (lv_at hl 0 rfl) ?_
  refine lv_iconst (v := (0 : Int32)) hx hb dX2_emptyText_1 (by decide) ?_
  refine va_put (D := (dC, dI)) (ci := 1) (v := .int (0 : Int32)) (ty := .int) (C := RX2) (T := TX2) (N := 4) hx hb hts iX2 tyX2 tyX2_ok nmX2 hown hK hP (hD.fst rfl) hS 0 rfl rfl 2 (by decide) (hts (.fieldLink RX2 24 "PascalRows$Reader" "length" "I") (List.mem_of_getElem? (i := 1) rfl)) (fun _ h9 => h9) rfl (by decide +kernel) rfl rfl (Nat.le_of_ble_eq_true rfl) dX2_emptyText_2 (fun H locs hP _ hS => ?_)
  have hP : va_P (dC, dI) vwCl [(a_o, .inr (1, [.ref a_o_text, .ref a_o_clauses, .int (0 : Int32), .int o_next]))] H := hP
  obtain rfl := Option.some.inj hr
  exact hret H locs _ hP hS (fun Qc free hq hf => W.vret hx hb hrt hq hf dX2_emptyText_5 hlocks)
/-! X2_sign -/
def rmX2_sign : Room := { frames := 0, cells := 0, slots := 0, locals := 0 }
set_option maxHeartbeats 4000000 in
set_option maxRecDepth 100000 in
theorem k_X2_sign (l : Launch) (dC : Nat → ClassId) (dI : Nat → Nat → Nat) (cI cJ : ClassId) (a_o : Nat) (a_o_text : Nat) (a_o_clauses : Nat) (o_length : Int32) (o_next : Int32) (o_text : Nat → Int32) (r : Int32) (hr : f_X2_sign o_text o_length o_next = some r) : Met l yX2_sign wsX2_sign rmX2_sign (va_Pc [.ref a_o] (pE (dC, dI) cI cJ [(a_o, .inr (1, [.ref a_o_text, .ref a_o_clauses, .int o_length, .int o_next])), (a_o_text, .inl (cI, 100, .inl o_text))])) (rq (.int r)) 0 0 nofree := by
  refine ro_of_i (cc := cX2_sign) (maxL := 1) (by decide) rfl (Nat.le_of_ble_eq_true rfl) ?_
  intro p e s m args below meth c Q ls hx hb hml hown hts hE hP hret hl
  have hK := hE.1
  have hl : lv_has ls 1 [(0, .ref a_o)] := hl
  unfold f_X2_sign at hr
  have iX2 : ∀ w ∈ wsX20, w ∈ wsX2_sign := memr_ (big := wsX2_sign) wsX20 [4, 5, 6, 7] (by decide +kernel)
  refine lv_aload_n hx hb dX2_sign_0 rfl (lv_at hl 0 rfl) ?_
  refine va_get (D := (dC, dI)) (ci := 1) (v := .int o_next) (C := RX2) (T := TX2) (N := 4) hx hb hts iX2 hown hK hP 0 rfl rfl 3 (by decide) (hts (.fieldLink RX2 31 "PascalRows$Reader" "next" "I") (List.mem_of_getElem? (i := 1) rfl)) (fun _ h9 => h9) rfl dX2_sign_1 ?_
  have tT_2 : ((¬ (o_next < 0)) ∧ ((¬ (o_length ≤ o_next)) ∧ (¬ ((Int32.ofNat 100) ≤ o_next)))) → W p l e rmX2_sign s m args below meth c s.heap [] 0 0 Q (F0 m 30 ls []) := by
    intro hc_1
    have hr := ite_p hr hc_1
    refine lv_aload_n hx hb dX2_sign_30 rfl (lv_at hl 0 rfl) ?_
    refine va_get (D := (dC, dI)) (ci := 1) (v := .ref a_o_text) (C := RX2) (T := TX2) (N := 4) hx hb hts iX2 hown hK hP 0 rfl rfl 0 (by decide) (hts (.fieldLink RX2 11 "PascalRows$Reader" "text" "[I") (List.mem_of_getElem? (i := 3) rfl)) (fun _ h9 => h9) rfl dX2_sign_31 ?_
    refine lv_aload_n hx hb dX2_sign_34 rfl (lv_at hl 0 rfl) ?_
    refine va_get (D := (dC, dI)) (ci := 1) (v := .int o_next) (C := RX2) (T := TX2) (N := 4) hx hb hts iX2 hown hK hP 0 rfl rfl 3 (by decide) (hts (.fieldLink RX2 31 "PascalRows$Reader" "next" "I") (List.mem_of_getElem? (i := 1) rfl)) (fun _ h9 => h9) rfl dX2_sign_35 ?_
    obtain ⟨g_3, eg_3, hg_3, hr⟩ := rd_e hr
    refine va_iald hx hb hK hP 1 0 rfl rfl hg_3 dX2_sign_38 ?_
    refine tp_ eg_3 ?_
    refine lv_goto (tgt := 43) hx hb dX2_sign_39 (by decide) ?_
    exact hret 43 ls _ dX2_sign_43 (Option.some.inj hr)
  have tF_4 : ¬ ((¬ (o_next < 0)) ∧ ((¬ (o_length ≤ o_next)) ∧ (¬ ((Int32.ofNat 100) ≤ o_next)))) → W p l e rmX2_sign s m args below meth c s.heap [] 0 0 Q (F0 m 42 ls []) := by
    intro hc_1
    have hr := ite_n hr hc_1
    refine lv_iconst (v := (-1 : Int32)) hx hb dX2_sign_42 (by decide) ?_
    exact hret 43 ls _ dX2_sign_43 (Option.some.inj hr)
  refine lv_if_lt (tgt := 42) hx hb dX2_sign_4 (by decide) (fun c_5 => ?_) (fun c_5 => ?_)
  · exact tF_4 (fun h => (fun h => h c_5) h.1)
  · refine lv_aload_n hx hb dX2_sign_7 rfl (lv_at hl 0 rfl) ?_
    refine va_get (D := (dC, dI)) (ci := 1) (v := .int o_next) (C := RX2) (T := TX2) (N := 4) hx hb hts iX2 hown hK hP 0 rfl rfl 3 (by decide) (hts (.fieldLink RX2 31 "PascalRows$Reader" "next" "I") (List.mem_of_getElem? (i := 1) rfl)) (fun _ h9 => h9) rfl dX2_sign_8 ?_
    refine lv_aload_n hx hb dX2_sign_11 rfl (lv_at hl 0 rfl) ?_
    refine va_get (D := (dC, dI)) (ci := 1) (v := .int o_length) (C := RX2) (T := TX2) (N := 4) hx hb hts iX2 hown hK hP 0 rfl rfl 2 (by decide) (hts (.fieldLink RX2 24 "PascalRows$Reader" "length" "I") (List.mem_of_getElem? (i := 2) rfl)) (fun _ h9 => h9) rfl dX2_sign_12 ?_
    refine lv_icmp_ge (tgt := 42) hx hb dX2_sign_15 (by decide) (fun c_6 => ?_) (fun c_6 => ?_)
    · exact tF_4 (fun h => (fun h => (fun h => h c_6) h.1) h.2)
    · refine lv_aload_n hx hb dX2_sign_18 rfl (lv_at hl 0 rfl) ?_
      refine va_get (D := (dC, dI)) (ci := 1) (v := .int o_next) (C := RX2) (T := TX2) (N := 4) hx hb hts iX2 hown hK hP 0 rfl rfl 3 (by decide) (hts (.fieldLink RX2 31 "PascalRows$Reader" "next" "I") (List.mem_of_getElem? (i := 1) rfl)) (fun _ h9 => h9) rfl dX2_sign_19 ?_
      refine lv_aload_n hx hb dX2_sign_22 rfl (lv_at hl 0 rfl) ?_
      refine va_get (D := (dC, dI)) (ci := 1) (v := .ref a_o_text) (C := RX2) (T := TX2) (N := 4) hx hb hts iX2 hown hK hP 0 rfl rfl 0 (by decide) (hts (.fieldLink RX2 11 "PascalRows$Reader" "text" "[I") (List.mem_of_getElem? (i := 3) rfl)) (fun _ h9 => h9) rfl dX2_sign_23 ?_
      refine va_alen (v := (Int32.ofNat 100)) hx hb hK hP 1 0 rfl rfl rfl dX2_sign_26 ?_
      refine lv_icmp_ge (tgt := 42) hx hb dX2_sign_27 (by decide) (fun c_7 => ?_) (fun c_7 => ?_)
      · exact tF_4 (fun h => (fun h => (fun h => h c_7) h.2) h.2)
      · exact tT_2 ⟨c_5, ⟨c_6, c_7⟩⟩
/-! X2_takeNumber -/
def rmX2_takeNumber : Room := { frames := 1, cells := 0, slots := 0, locals := 22 }
set_option maxHeartbeats 4000000 in
set_option maxRecDepth 100000 in
theorem k_X2_takeNumber (l : Launch) (dC : Nat → ClassId) (dI : Nat → Nat → Nat) (cI cJ : ClassId) (a_o : Nat) (a_o_text : Nat) (a_o_clauses : Nat) (p0 : Int32) (o_length : Int32) (o_next : Int32) (o_text : Nat → Int32) (sz : Nat) (r : Int32 × Int32) (hr : f_X2_takeNumber p0 o_text o_length o_next = some r) : Met l yX2_takeNumber wsX2_takeNumber rmX2_takeNumber (va_Pc [.ref a_o, .int p0] (pM (dC, dI) cI cJ [(a_o, .inr (1, [.ref a_o_text, .ref a_o_clauses, .int o_length, .int o_next])), (a_o_text, .inl (cI, 100, .inl o_text))] sz)) (qM (some (.int r.1)) (dC, dI) [(a_o, .inr (1, [.ref a_o_text, .ref a_o_clauses, .int o_length, .int r.2])), (a_o_text, .inl (cI, 100, .inl o_text))] (va_A [(a_o, .inr (1, [.ref a_o_text, .ref a_o_clauses, .int o_length, .int o_next])), (a_o_text, .inl (cI, 100, .inl o_text))] sz)) 0 0 (va_A [(a_o, .inr (1, [.ref a_o_text, .ref a_o_clauses, .int o_length, .int o_next])), (a_o_text, .inl (cI, 100, .inl o_text))] sz) := by
  refine mu_of (cc := cX2_takeNumber) (maxL := 5) (by decide) rfl (Nat.le_of_ble_eq_true rfl) ?_
  intro p e s m args below meth c Q ls A hx hb hml hown hts hE hP hD hA hrt hlocks hret hl
  have hK := hE.1
  have hS : va_S A s.heap s.heap [] := va_S.rf
  have hl : lv_has ls 5 [(0, .ref a_o), (1, .int p0)] := hl
  unfold f_X2_takeNumber at hr
  obtain ⟨H, hHe⟩ : ∃ H, H = s.heap := ⟨_, rfl⟩
  obtain ⟨locs, hLe⟩ : ∃ locs : List Loc, locs = [] := ⟨_, rfl⟩
  suffices hgo : va_P (dC, dI) vwCl [(a_o, .inr (1, [.ref a_o_text, .ref a_o_clauses, .int o_length, .int o_next])), (a_o_text, .inl (cI, 100, .inl o_text))] H → va_S A s.heap H locs → W p l e rmX2_takeNumber s m args below meth c H locs 0 0 Q (F0 m 0 ls []) by
    subst hHe; subst hLe; exact hgo hP hS
  clear hP hS hHe hLe
  intro hP hS
  have iX2 : ∀ w ∈ wsX20, w ∈ wsX2_takeNumber := memr_ (big := wsX2_takeNumber) wsX20 [16, 17, 18, 19] (by decide +kernel)
  refine lv_iconst (v := (-1 : Int32)) hx hb dX2_takeNumber_0 (by decide) ?_
  refine lv_istore_n (lv' := [(2, .int (-1 : Int32)), (0, .ref a_o), (1, .int p0)]) hx hb dX2_takeNumber_1 rfl hl (by decide) rfl (fun ls hl => ?_)
  refine lv_iconst (v := (0 : Int32)) hx hb dX2_takeNumber_2 (by decide) ?_
  refine lv_istore_n (lv' := [(3, .int (0 : Int32)), (2, .int (-1 : Int32)), (0, .ref a_o), (1, .int p0)]) hx hb dX2_takeNumber_3 rfl hl (by decide) rfl (fun ls hl => ?_)
  have hL4 : ∀ (v1_4 : Int32) (k_4 : Int32 → (Int32) → Option (Int32 × Int32)) (hk : ∀ (x2_4 : Int32) (xc_o_next_4 : Int32) (ls : Array Slot), lv_has ls 5 [(2, .int x2_4)] → ∀ (H : Heap) (locs : List Loc), va_P (dC, dI) vwCl [(a_o, .inr (1, [.ref a_o_text, .ref a_o_clauses, .int o_length, .int xc_o_next_4])), (a_o_text, .inl (cI, 100, .inl o_text))] H → va_S A s.heap H locs →  k_4 x2_4 xc_o_next_4 = some r → W p l e rmX2_takeNumber s m args below meth c H locs 0 0 Q (F0 m 59 ls [])) (fuel : Nat) (v2_4 : Int32) (v3_4 : Int32) (o_next_4 : Int32) (ls : Array Slot), lv_has ls 5 [(0, .ref a_o), (1, .int v1_4), (2, .int v2_4), (3, .int v3_4)] → ∀ (H : Heap) (locs : List Loc), va_P (dC, dI) vwCl [(a_o, .inr (1, [.ref a_o_text, .ref a_o_clauses, .int o_length, .int o_next_4])), (a_o_text, .inl (cI, 100, .inl o_text))] H → va_S A s.heap H locs → f_X2_takeNumber_L4 k_4 v1_4 o_text o_length fuel v2_4 v3_4 o_next_4 = some r → W p l e rmX2_takeNumber s m args below meth c H locs 0 0 Q (F0 m 4 ls []) := by
    intro v1_4 k_4 hk fuel
    induction fuel with
    | zero =>
      intro v2_4 v3_4 o_next_4 ls hl H locs hP hS hr
      rw [f_X2_takeNumber_L4_z] at hr
      cases hr
    | succ fuel ih =>
      intro v2_4 v3_4 o_next_4 ls hl H locs hP hS hr
      rw [f_X2_takeNumber_L4_s] at hr
      refine lv_iload_n hx hb dX2_takeNumber_4 rfl (lv_at hl 3 rfl) ?_
      refine lv_iload_n hx hb dX2_takeNumber_5 rfl (lv_at hl 1 rfl) ?_
      refine lv_icmp_ge (tgt := 59) hx hb dX2_takeNumber_6 (by decide) (fun c_1 => ?_) (fun c_1 => ?_)
      · have hr := ite_p hr c_1
        exact hk v2_4 o_next_4 ls (lv_sub hl [2] rfl) H locs hP hS hr
      · have hr := ite_n hr c_1
        refine lv_aload_n hx hb dX2_takeNumber_9 rfl (lv_at hl 0 rfl) ?_
        obtain ⟨u_2, hu_2, hr⟩ := bd_e hr
        refine ro_V ⟨hx, hb, hml, hown, hts⟩ (k_X2_sign l dC dI cI cJ a_o a_o_text a_o_clauses o_length o_next_4 o_text u_2 hu_2) (cwV 0 hts gX2_takeNumber_X2_sign rfl rfl rfl (by decide +kernel) ⟨Nat.le_of_ble_eq_true rfl, Nat.le_of_ble_eq_true rfl⟩) hE hP 0 rfl rfl rfl (hP.sub [0, 1] rfl) rfl hl.1 rfl (Nat.le_of_ble_eq_true rfl) dX2_takeNumber_10 ⟨Nat.zero_le _, Nat.zero_le _⟩ ?_
        refine lv_bipush (v := (48 : Int32)) hx hb dX2_takeNumber_13 (by decide) ?_
        refine lv_isub hx hb dX2_takeNumber_15 ?_
        refine lv_istore (lv' := [(4, .int (u_2 - (48 : Int32))), (0, .ref a_o), (1, .int v1_4), (2, .int v2_4), (3, .int v3_4)]) hx hb dX2_takeNumber_16 hl (by decide) rfl (fun ls hl => ?_)
        refine lv_iload hx hb dX2_takeNumber_18 (lv_at hl 0 rfl) ?_
        refine lv_iconst (v := (0 : Int32)) hx hb dX2_takeNumber_20 (by decide) ?_
        refine lv_bipush (v := (9 : Int32)) hx hb dX2_takeNumber_21 (by decide) ?_
        refine ro_SN ⟨hx, hb, hml, hown, hts⟩ (k_X6_isWithin l dC dI cI cJ (u_2 - (48 : Int32)) (0 : Int32) (9 : Int32)) ⟨va_cnB 3 hts gX2_takeNumber_X6_isWithin_n54 rfl rfl rfl (hE.nw 16 rfl) (hts (.initialized RX6) (List.mem_of_getElem? (i := 14) rfl)) (by decide +kernel) ⟨Nat.le_of_ble_eq_true rfl, Nat.le_of_ble_eq_true rfl⟩, (hts (.static yX6_isWithin) (List.mem_of_getElem? (i := 13) rfl)), trivial⟩ hE (hP.sub [] rfl) rfl hl.1 rfl (Nat.le_of_ble_eq_true rfl) dX2_takeNumber_23 ⟨Nat.zero_le _, Nat.zero_le _⟩ ?_
        refine lv_if_ne (tgt := 31) hx hb dX2_takeNumber_26 (by decide) (fun c_3 => ?_) (fun c_3 => ?_)
        · have hr := ite_n hr c_3
          refine lv_bipush (v := (10 : Int32)) hx hb dX2_takeNumber_31 (by decide) ?_
          refine lv_iload_n hx hb dX2_takeNumber_33 rfl (lv_at hl 3 rfl) ?_
          refine lv_iconst (v := (0 : Int32)) hx hb dX2_takeNumber_34 (by decide) ?_
          refine va_mmax hx hb (hml.trans hl.1.symm) hown (hts (.methodLink RX2 58 Lib.Math.max.name) (List.mem_of_getElem? (i := 1) rfl)) (hts (.static Lib.Math.max.name) (List.mem_of_getElem? (i := 2) rfl)) (hts (.initialized "java/lang/Math") (List.mem_of_getElem? (i := 3) rfl)) (hts (.code Lib.Math.max.name Lib.Math.max.code 2 (some .int)) (List.mem_of_getElem? (i := 4) rfl)) (Nat.le_of_ble_eq_true rfl) (Nat.le_of_ble_eq_true rfl) (Nat.zero_le _) (Nat.zero_le _) dX2_takeNumber_35 ?_
          refine lv_imul hx hb dX2_takeNumber_38 ?_
          refine lv_iload hx hb dX2_takeNumber_39 (lv_at hl 0 rfl) ?_
          refine lv_iadd hx hb dX2_takeNumber_41 ?_
          refine lv_topi (fun x_4 ex_4 => ?_)
          have hr := qn_e hr ex_4
          refine lv_istore_n (lv' := [(2, .int x_4), (4, .int (u_2 - (48 : Int32))), (0, .ref a_o), (1, .int v1_4), (3, .int v3_4)]) hx hb dX2_takeNumber_42 rfl hl (by decide) rfl (fun ls hl => ?_)
          refine lv_aload_n hx hb dX2_takeNumber_43 rfl (lv_at hl 2 rfl) ?_
          refine lv_dup hx hb dX2_takeNumber_44 rfl ?_
          refine va_get (D := (dC, dI)) (ci := 1) (v := .int o_next_4) (C := RX2) (T := TX2) (N := 4) hx hb hts iX2 hown hK hP 0 rfl rfl 3 (by decide) (hts (.fieldLink RX2 31 "PascalRows$Reader" "next" "I") (List.mem_of_getElem? (i := 5) rfl)) (fun _ h9 => h9) rfl dX2_takeNumber_45 ?_
          refine lv_iconst (v := (1 : Int32)) hx hb dX2_takeNumber_48 (by decide) ?_
          refine lv_iadd hx hb dX2_takeNumber_49 ?_
          refine va_put (D := (dC, dI)) (ci := 1) (v := .int (o_next_4 + (1 : Int32))) (ty := .int) (C := RX2) (T := TX2) (N := 4) hx hb hts iX2 tyX2 tyX2_ok nmX2 hown hK hP (hD.fst rfl) hS 0 rfl rfl 3 (by decide) (hts (.fieldLink RX2 31 "PascalRows$Reader" "next" "I") (List.mem_of_getElem? (i := 5) rfl)) (fun _ h9 => h9) rfl (by decide +kernel) rfl rfl (Nat.le_of_ble_eq_true rfl) dX2_takeNumber_50 (fun H locs hP _ hS => ?_)
          have hP : va_P (dC, dI) vwCl [(a_o, .inr (1, [.ref a_o_text, .ref a_o_clauses, .int o_length, .int (o_next_4 + (1 : Int32))])), (a_o_text, .inl (cI, 100, .inl o_text))] H := hP
          refine lv_iinc (v := (v3_4 + (1 : Int32))) (lv' := [(3, .int (v3_4 + (1 : Int32))), (2, .int x_4), (4, .int (u_2 - (48 : Int32))), (0, .ref a_o), (1, .int v1_4)]) hx hb dX2_takeNumber_53 hl (k := 4) rfl (congrArg (fun z => v3_4 + z) (by decide)) (by decide) rfl (fun ls hl => ?_)
          refine lv_goto (tgt := 4) hx hb dX2_takeNumber_56 (by decide) ?_
          exact ih x_4 (v3_4 + (1 : Int32)) (o_next_4 + (1 : Int32)) ls (lv_sub hl [3, 4, 1, 0] rfl) H locs hP hS hr
        · have hr := ite_p hr c_3
          refine lv_iload_n hx hb dX2_takeNumber_29 rfl (lv_at hl 3 rfl) ?_
          obtain rfl := Option.some.inj hr
          exact hret H locs _ hP hS (fun Qc free hq hf => W.iret hx hb hrt hq hf dX2_takeNumber_30 hlocks)
  refine hL4 p0 _ (fun x2_4 xc_o_next_4 ls hl H locs hP hS hr => ?_) 5000 (-1 : Int32) (0 : Int32) o_next ls (lv_sub hl [2, 3, 1, 0] rfl) H locs hP hS hr
  refine lv_iload_n hx hb dX2_takeNumber_59 rfl (lv_at hl 0 rfl) ?_
  obtain rfl := Option.some.inj hr
  exact hret H locs _ hP hS (fun Qc free hq hf => W.iret hx hb hrt hq hf dX2_takeNumber_60 hlocks)
/-! X2_take -/
def rmX2_take : Room := { frames := 1, cells := 0, slots := 0, locals := 20 }
set_option maxHeartbeats 4000000 in
set_option maxRecDepth 100000 in
theorem k_X2_take (l : Launch) (dC : Nat → ClassId) (dI : Nat → Nat → Nat) (cI cJ : ClassId) (a_o : Nat) (a_o_text : Nat) (a_o_clauses : Nat) (p0 : Int32) (o_length : Int32) (o_next : Int32) (o_text : Nat → Int32) (sz : Nat) (r : Int32 × Int32) (hr : f_X2_take p0 o_text o_length o_next = some r) : Met l yX2_take wsX2_take rmX2_take (va_Pc [.ref a_o, .int p0] (pM (dC, dI) cI cJ [(a_o, .inr (1, [.ref a_o_text, .ref a_o_clauses, .int o_length, .int o_next])), (a_o_text, .inl (cI, 100, .inl o_text))] sz)) (qM (some (.int r.1)) (dC, dI) [(a_o, .inr (1, [.ref a_o_text, .ref a_o_clauses, .int o_length, .int r.2])), (a_o_text, .inl (cI, 100, .inl o_text))] (va_A [(a_o, .inr (1, [.ref a_o_text, .ref a_o_clauses, .int o_length, .int o_next])), (a_o_text, .inl (cI, 100, .inl o_text))] sz)) 0 0 (va_A [(a_o, .inr (1, [.ref a_o_text, .ref a_o_clauses, .int o_length, .int o_next])), (a_o_text, .inl (cI, 100, .inl o_text))] sz) := by
  refine mu_of (cc := cX2_take) (maxL := 3) (by decide) rfl (Nat.le_of_ble_eq_true rfl) ?_
  intro p e s m args below meth c Q ls A hx hb hml hown hts hE hP hD hA hrt hlocks hret hl
  have hK := hE.1
  have hS : va_S A s.heap s.heap [] := va_S.rf
  have hl : lv_has ls 3 [(0, .ref a_o), (1, .int p0)] := hl
  unfold f_X2_take at hr
  obtain ⟨H, hHe⟩ : ∃ H, H = s.heap := ⟨_, rfl⟩
  obtain ⟨locs, hLe⟩ : ∃ locs : List Loc, locs = [] := ⟨_, rfl⟩
  suffices hgo : va_P (dC, dI) vwCl [(a_o, .inr (1, [.ref a_o_text, .ref a_o_clauses, .int o_length, .int o_next])), (a_o_text, .inl (cI, 100, .inl o_text))] H → va_S A s.heap H locs → W p l e rmX2_take s m args below meth c H locs 0 0 Q (F0 m 0 ls []) by
    subst hHe; subst hLe; exact hgo hP hS
  clear hP hS hHe hLe
  intro hP hS
  have iX2 : ∀ w ∈ wsX20, w ∈ wsX2_take := memr_ (big := wsX2_take) wsX20 [9, 10, 11, 12] (by decide +kernel)
  refine lv_aload_n hx hb dX2_take_0 rfl (lv_at hl 0 rfl) ?_
  obtain ⟨u_1, hu_1, hr⟩ := bd_e hr
  refine ro_V ⟨hx, hb, hml, hown, hts⟩ (k_X2_sign l dC dI cI cJ a_o a_o_text a_o_clauses o_length o_next o_text u_1 hu_1) (cwV 0 hts gX2_take_X2_sign rfl rfl rfl (by decide +kernel) ⟨Nat.le_of_ble_eq_true rfl, Nat.le_of_ble_eq_true rfl⟩) hE hP 0 rfl rfl rfl (hP.sub [0, 1] rfl) rfl hl.1 rfl (Nat.le_of_ble_eq_true rfl) dX2_take_1 ⟨Nat.zero_le _, Nat.zero_le _⟩ ?_
  refine lv_iload_n hx hb dX2_take_4 rfl (lv_at hl 1 rfl) ?_
  have hJ_2 : ∀ (y_3 : Int32) (ey_3 : y_3 = (if (u_1 = p0) then (1 : Int32) else (0 : Int32))) (ls : Array Slot), lv_has ls 3 [(0, .ref a_o)] → W p l e rmX2_take s m args below meth c H locs 0 0 Q (F0 m 13 ls [.int y_3]) := by
    intro y_3 ey_3 ls hl
    subst ey_3
    refine lv_istore_n (lv' := [(2, .int (if (u_1 = p0) then (1 : Int32) else (0 : Int32))), (0, .ref a_o)]) hx hb dX2_take_13 rfl hl (by decide) rfl (fun ls hl => ?_)
    refine lv_aload_n hx hb dX2_take_14 rfl (lv_at hl 1 rfl) ?_
    refine lv_dup hx hb dX2_take_15 rfl ?_
    refine va_get (D := (dC, dI)) (ci := 1) (v := .int o_next) (C := RX2) (T := TX2) (N := 4) hx hb hts iX2 hown hK hP 0 rfl rfl 3 (by decide) (hts (.fieldLink RX2 31 "PascalRows$Reader" "next" "I") (List.mem_of_getElem? (i := 1) rfl)) (fun _ h9 => h9) rfl dX2_take_16 ?_
    refine lv_iload_n hx hb dX2_take_19 rfl (lv_at hl 0 rfl) ?_
    have hJ_4 : ∀ (y_5 : Int32) (ey_5 : y_5 = (if (¬ ((if (u_1 = p0) then (1 : Int32) else (0 : Int32)) = 0)) then (1 : Int32) else (0 : Int32))) (ls : Array Slot), lv_has ls 3 [(2, .int (if (u_1 = p0) then (1 : Int32) else (0 : Int32)))] → W p l e rmX2_take s m args below meth c H locs 0 0 Q (F0 m 28 ls [.int y_5, .int o_next, .ref a_o]) := by
      intro y_5 ey_5 ls hl
      have hr := qn_e hr ey_5
      refine lv_iadd hx hb dX2_take_28 ?_
      refine va_put (D := (dC, dI)) (ci := 1) (v := .int (o_next + y_5)) (ty := .int) (C := RX2) (T := TX2) (N := 4) hx hb hts iX2 tyX2 tyX2_ok nmX2 hown hK hP (hD.fst rfl) hS 0 rfl rfl 3 (by decide) (hts (.fieldLink RX2 31 "PascalRows$Reader" "next" "I") (List.mem_of_getElem? (i := 1) rfl)) (fun _ h9 => h9) rfl (by decide +kernel) rfl rfl (Nat.le_of_ble_eq_true rfl) dX2_take_29 (fun H locs hP _ hS => ?_)
      have hP : va_P (dC, dI) vwCl [(a_o, .inr (1, [.ref a_o_text, .ref a_o_clauses, .int o_length, .int (o_next + y_5)])), (a_o_text, .inl (cI, 100, .inl o_text))] H := hP
      refine lv_iload_n hx hb dX2_take_32 rfl (lv_at hl 0 rfl) ?_
      obtain rfl := Option.some.inj hr
      exact hret H locs _ hP hS (fun Qc free hq hf => W.zret hx hb hrt (nz_ (nb_lit _)) hq hf dX2_take_33 hlocks)
    refine lv_if_eq (tgt := 27) hx hb dX2_take_20 (by decide) (fun c_6 => ?_) (fun c_6 => ?_)
    · refine lv_iconst (v := (0 : Int32)) hx hb dX2_take_27 (by decide) ?_
      exact hJ_4 _ (if_neg (fun h => h c_6)).symm ls (lv_sub hl [0] rfl)
    · refine lv_iconst (v := (1 : Int32)) hx hb dX2_take_23 (by decide) ?_
      refine lv_goto (tgt := 28) hx hb dX2_take_24 (by decide) ?_
      exact hJ_4 _ (if_pos c_6).symm ls (lv_sub hl [0] rfl)
  refine lv_icmp_ne (tgt := 12) hx hb dX2_take_5 (by decide) (fun c_7 => ?_) (fun c_7 => ?_)
  · refine lv_iconst (v := (0 : Int32)) hx hb dX2_take_12 (by decide) ?_
    exact hJ_2 _ (if_neg c_7).symm ls (lv_sub hl [0] rfl)
  · refine lv_iconst (v := (1 : Int32)) hx hb dX2_take_8 (by decide) ?_
    refine lv_goto (tgt := 13) hx hb dX2_take_9 (by decide) ?_
    exact hJ_2 _ (if_pos c_7).symm ls (lv_sub hl [0] rfl)
/-! X2_takeClause -/
def rmX2_takeClause : Room := { frames := 2, cells := 0, slots := 0, locals := 46 }
set_option maxHeartbeats 4000000 in
set_option maxRecDepth 100000 in
theorem k_X2_takeClause (l : Launch) (dC : Nat → ClassId) (dI : Nat → Nat → Nat) (cI cJ : ClassId) (a_o : Nat) (a_o_text : Nat) (a_o_clauses : Nat) (a_o_clauses_numbers : Nat) (o_length : Int32) (o_next : Int32) (o_text : Nat → Int32) (o_clauses_size : Int32) (o_clauses_numbers : Nat → Int32) (sz : Nat) (r : Int32 × (Nat → Int32) × Int32 × Int32) (hr : f_X2_takeClause o_text o_clauses_numbers o_clauses_size o_length o_next = some r) : Met l yX2_takeClause wsX2_takeClause rmX2_takeClause (va_Pc [.ref a_o] (pM (dC, dI) cI cJ [(a_o, .inr (1, [.ref a_o_text, .ref a_o_clauses, .int o_length, .int o_next])), (a_o_text, .inl (cI, 100, .inl o_text)), (a_o_clauses, .inr (0, [.ref a_o_clauses_numbers, .int o_clauses_size])), (a_o_clauses_numbers, .inl (cI, 36, .inl o_clauses_numbers))] sz)) (qM (some (.int r.1)) (dC, dI) [(a_o, .inr (1, [.ref a_o_text, .ref a_o_clauses, .int o_length, .int r.2.2.2])), (a_o_text, .inl (cI, 100, .inl o_text)), (a_o_clauses, .inr (0, [.ref a_o_clauses_numbers, .int r.2.2.1])), (a_o_clauses_numbers, .inl (cI, 36, .inl r.2.1))] (va_A [(a_o, .inr (1, [.ref a_o_text, .ref a_o_clauses, .int o_length, .int o_next])), (a_o_text, .inl (cI, 100, .inl o_text)), (a_o_clauses, .inr (0, [.ref a_o_clauses_numbers, .int o_clauses_size])), (a_o_clauses_numbers, .inl (cI, 36, .inl o_clauses_numbers))] sz)) 0 0 (va_A [(a_o, .inr (1, [.ref a_o_text, .ref a_o_clauses, .int o_length, .int o_next])), (a_o_text, .inl (cI, 100, .inl o_text)), (a_o_clauses, .inr (0, [.ref a_o_clauses_numbers, .int o_clauses_size])), (a_o_clauses_numbers, .inl (cI, 36, .inl o_clauses_numbers))] sz) := by
  refine mu_of (cc := cX2_takeClause) (maxL := 4) (by decide) rfl (Nat.le_of_ble_eq_true rfl) ?_
  intro p e s m args below meth c Q ls A hx hb hml hown hts hE hP hD hA hrt hlocks hret hl
  have hK := hE.1
  have hS : va_S A s.heap s.heap [] := va_S.rf
  have hl : lv_has ls 4 [(0, .ref a_o)] := hl
  unfold f_X2_takeClause at hr
  obtain ⟨H, hHe⟩ : ∃ H, H = s.heap := ⟨_, rfl⟩
  obtain ⟨locs, hLe⟩ : ∃ locs : List Loc, locs = [] := ⟨_, rfl⟩
  suffices hgo : va_P (dC, dI) vwCl [(a_o, .inr (1, [.ref a_o_text, .ref a_o_clauses, .int o_length, .int o_next])), (a_o_text, .inl (cI, 100, .inl o_text)), (a_o_clauses, .inr (0, [.ref a_o_clauses_numbers, .int o_clauses_size])), (a_o_clauses_numbers, .inl (cI, 36, .inl o_clauses_numbers))] H → va_S A s.heap H locs → W p l e rmX2_takeClause s m args below meth c H locs 0 0 Q (F0 m 0 ls []) by
    subst hHe; subst hLe; exact hgo hP hS
  clear hP hS hHe hLe
  intro hP hS
  have iX1 : ∀ w ∈ wsX10, w ∈ wsX2_takeClause := memr_ (big := wsX2_takeClause) wsX10 [36, 37] (by decide +kernel)
  have iX2 : ∀ w ∈ wsX20, w ∈ wsX2_takeClause := memr_ (big := wsX2_takeClause) wsX20 [32, 33, 34, 35] (by decide +kernel)
  refine lv_aload_n hx hb dX2_takeClause_0 rfl (lv_at hl 0 rfl) ?_
  obtain ⟨u_1, hu_1, hr⟩ := bd_e hr
  refine ro_V ⟨hx, hb, hml, hown, hts⟩ (k_X2_sign l dC dI cI cJ a_o a_o_text a_o_clauses o_length o_next o_text u_1 hu_1) (cwV 0 hts gX2_takeClause_X2_sign rfl rfl rfl (by decide +kernel) ⟨Nat.le_of_ble_eq_true rfl, Nat.le_of_ble_eq_true rfl⟩) hE hP 0 rfl rfl rfl (hP.sub [0, 1] rfl) rfl hl.1 rfl (Nat.le_of_ble_eq_true rfl) dX2_takeClause_1 ⟨Nat.zero_le _, Nat.zero_le _⟩ ?_
  refine lv_istore_n (lv' := [(1, .int u_1), (0, .ref a_o)]) hx hb dX2_takeClause_4 rfl hl (by decide) rfl (fun ls hl => ?_)
  refine lv_iload_n hx hb dX2_takeClause_5 rfl (lv_at hl 0 rfl) ?_
  refine lv_bipush (v := (112 : Int32)) hx hb dX2_takeClause_6 (by decide) ?_
  have tT_3 : ((¬ (u_1 = (112 : Int32))) ∧ ((¬ (u_1 = (101 : Int32))) ∧ ((¬ (u_1 = (109 : Int32))) ∧ ((¬ (u_1 = (120 : Int32))) ∧ (¬ (u_1 = (119 : Int32))))))) → W p l e rmX2_takeClause s m args below meth c H locs 0 0 Q (F0 m 35 ls []) := by
    intro hc_2
    have hr := ite_p hr hc_2
    refine lv_iconst (v := (0 : Int32)) hx hb dX2_takeClause_35 (by decide) ?_
    obtain rfl := Option.some.inj hr
    exact hret H locs _ hP hS (fun Qc free hq hf => W.zret hx hb hrt (nz_ (Or.inl rfl)) hq hf dX2_takeClause_36 hlocks)
  have tF_4 : ¬ ((¬ (u_1 = (112 : Int32))) ∧ ((¬ (u_1 = (101 : Int32))) ∧ ((¬ (u_1 = (109 : Int32))) ∧ ((¬ (u_1 = (120 : Int32))) ∧ (¬ (u_1 = (119 : Int32))))))) → W p l e rmX2_takeClause s m args below meth c H locs 0 0 Q (F0 m 37 ls []) := by
    intro hc_2
    have hr := ite_n hr hc_2
    refine lv_aload_n hx hb dX2_takeClause_37 rfl (lv_at hl 1 rfl) ?_
    refine lv_dup hx hb dX2_takeClause_38 rfl ?_
    refine va_get (D := (dC, dI)) (ci := 1) (v := .int o_next) (C := RX2) (T := TX2) (N := 4) hx hb hts iX2 hown hK hP 0 rfl rfl 3 (by decide) (hts (.fieldLink RX2 31 "PascalRows$Reader" "next" "I") (List.mem_of_getElem? (i := 1) rfl)) (fun _ h9 => h9) rfl dX2_takeClause_39 ?_
    refine lv_iconst (v := (1 : Int32)) hx hb dX2_takeClause_42 (by decide) ?_
    refine lv_iadd hx hb dX2_takeClause_43 ?_
    refine va_put (D := (dC, dI)) (ci := 1) (v := .int (o_next + (1 : Int32))) (ty := .int) (C := RX2) (T := TX2) (N := 4) hx hb hts iX2 tyX2 tyX2_ok nmX2 hown hK hP (hD.fst rfl) hS 0 rfl rfl 3 (by decide) (hts (.fieldLink RX2 31 "PascalRows$Reader" "next" "I") (List.mem_of_getElem? (i := 1) rfl)) (fun _ h9 => h9) rfl (by decide +kernel) rfl rfl (Nat.le_of_ble_eq_true rfl) dX2_takeClause_44 (fun H locs hP _ hS => ?_)
    have hP : va_P (dC, dI) vwCl [(a_o, .inr (1, [.ref a_o_text, .ref a_o_clauses, .int o_length, .int (o_next + (1 : Int32))])), (a_o_text, .inl (cI, 100, .inl o_text)), (a_o_clauses, .inr (0, [.ref a_o_clauses_numbers, .int o_clauses_size])), (a_o_clauses_numbers, .inl (cI, 36, .inl o_clauses_numbers))] H := hP
    refine lv_iconst (v := (0 : Int32)) hx hb dX2_takeClause_47 (by decide) ?_
    refine lv_istore_n (lv' := [(2, .int (0 : Int32)), (1, .int u_1), (0, .ref a_o)]) hx hb dX2_takeClause_48 rfl hl (by decide) rfl (fun ls hl => ?_)
    refine lv_iload_n hx hb dX2_takeClause_49 rfl (lv_at hl 1 rfl) ?_
    refine lv_bipush (v := (120 : Int32)) hx hb dX2_takeClause_50 (by decide) ?_
    refine lv_icmp_eq (tgt := 71) hx hb dX2_takeClause_52 (by decide) (fun c_5 => ?_) (fun c_5 => ?_)
    · have hr := ite_p hr c_5
      refine lv_iload_n hx hb dX2_takeClause_71 rfl (lv_at hl 0 rfl) ?_
      refine lv_iconst (v := (-1 : Int32)) hx hb dX2_takeClause_72 (by decide) ?_
      refine lv_icmp_eq (tgt := 91) hx hb dX2_takeClause_73 (by decide) (fun c_6 => ?_) (fun c_6 => ?_)
      · have hr := ite_p hr c_6
        refine lv_iconst (v := (0 : Int32)) hx hb dX2_takeClause_91 (by decide) ?_
        obtain rfl := Option.some.inj hr
        exact hret H locs _ hP hS (fun Qc free hq hf => W.zret hx hb hrt (nz_ (Or.inl rfl)) hq hf dX2_takeClause_92 hlocks)
      · have hr := ite_n hr c_6
        refine lv_iload_n hx hb dX2_takeClause_76 rfl (lv_at hl 1 rfl) ?_
        refine lv_bipush (v := (119 : Int32)) hx hb dX2_takeClause_77 (by decide) ?_
        refine lv_icmp_ne (tgt := 93) hx hb dX2_takeClause_79 (by decide) (fun c_7 => ?_) (fun c_7 => ?_)
        · have hr := ite_n hr c_7
          refine lv_iload_n hx hb dX2_takeClause_93 rfl (lv_at hl 1 rfl) ?_
          refine lv_bipush (v := (109 : Int32)) hx hb dX2_takeClause_94 (by decide) ?_
          have tT_9 : ((u_1 = (109 : Int32)) ∨ (u_1 = (119 : Int32))) → W p l e rmX2_takeClause s m args below meth c H locs 0 0 Q (F0 m 105 ls []) := by
            intro hc_8
            have hr := ite_p hr hc_8
            refine lv_aload_n hx hb dX2_takeClause_105 rfl (lv_at hl 2 rfl) ?_
            refine lv_iconst (v := (3 : Int32)) hx hb dX2_takeClause_106 (by decide) ?_
            obtain ⟨u_10, hu_10, hr⟩ := bd_e hr
            refine mu_V ⟨hx, hb, hml, hown, hts⟩ (k_X2_takeNumber l dC dI cI cJ a_o a_o_text a_o_clauses (3 : Int32) o_length (o_next + (1 : Int32)) o_text H.size u_10 hu_10) (cwV 1 hts gX2_takeClause_X2_takeNumber rfl rfl rfl (by decide +kernel) ⟨Nat.le_of_ble_eq_true rfl, Nat.le_of_ble_eq_true rfl⟩) hE 0 rfl rfl rfl rfl hl.1 rfl (Nat.le_of_ble_eq_true rfl) dX2_takeClause_107 ⟨Nat.zero_le _, Nat.zero_le _⟩ hP (hD.fst rfl) hS hA [0, 1] [2, 3] [2, 3, 0, 1] rfl rfl (by decide) (by decide) rfl (by decide) (W1 := [(a_o, .inr (1, [.ref a_o_text, .ref a_o_clauses, .int o_length, .int u_10.2])), (a_o_text, .inl (cI, 100, .inl o_text)), (a_o_clauses, .inr (0, [.ref a_o_clauses_numbers, .int o_clauses_size])), (a_o_clauses_numbers, .inl (cI, 36, .inl o_clauses_numbers))]) rfl (fun H locs hP hS => W.eq (g2 := F0 m 110 ls [.int u_10.1]) rfl ?_)
            refine lv_goto (tgt := 114) hx hb dX2_takeClause_110 (by decide) ?_
            refine lv_istore_n (lv' := [(3, .int u_10.1), (2, .int (0 : Int32)), (1, .int u_1), (0, .ref a_o)]) hx hb dX2_takeClause_114 rfl hl (by decide) rfl (fun ls hl => ?_)
            refine lv_iload_n hx hb dX2_takeClause_115 rfl (lv_at hl 0 rfl) ?_
            refine lv_iconst (v := (-1 : Int32)) hx hb dX2_takeClause_116 (by decide) ?_
            refine lv_icmp_eq (tgt := 137) hx hb dX2_takeClause_117 (by decide) (fun c_11 => ?_) (fun c_11 => ?_)
            · have hr := ite_p hr c_11
              refine lv_iconst (v := (0 : Int32)) hx hb dX2_takeClause_137 (by decide) ?_
              obtain rfl := Option.some.inj hr
              exact hret H locs _ hP hS (fun Qc free hq hf => W.zret hx hb hrt (nz_ (Or.inl rfl)) hq hf dX2_takeClause_138 hlocks)
            · have hr := ite_n hr c_11
              refine lv_aload_n hx hb dX2_takeClause_120 rfl (lv_at hl 3 rfl) ?_
              refine va_get (D := (dC, dI)) (ci := 1) (v := .ref a_o_clauses) (C := RX2) (T := TX2) (N := 4) hx hb hts iX2 hown hK hP 0 rfl rfl 1 (by decide) (hts (.fieldLink RX2 20 "PascalRows$Reader" "clauses" "LPascalRows$Lines;") (List.mem_of_getElem? (i := 2) rfl)) (fun _ h9 => h9) rfl dX2_takeClause_121 ?_
              refine lv_iload_n hx hb dX2_takeClause_124 rfl (lv_at hl 2 rfl) ?_
              refine lv_iload_n hx hb dX2_takeClause_125 rfl (lv_at hl 1 rfl) ?_
              refine lv_iload_n hx hb dX2_takeClause_126 rfl (lv_at hl 0 rfl) ?_
              obtain ⟨u_12, hu_12, hr⟩ := bd_e hr
              refine mu_V ⟨hx, hb, hml, hown, hts⟩ (k_X1_add l dC dI cI cJ a_o_clauses a_o_clauses_numbers u_1 (0 : Int32) u_10.1 36 o_clauses_size o_clauses_numbers H.size u_12 hu_12) (cwV 3 hts gX2_takeClause_X1_add rfl rfl rfl (by decide +kernel) ⟨Nat.le_of_ble_eq_true rfl, Nat.le_of_ble_eq_true rfl⟩) hE 2 rfl rfl rfl rfl hl.1 rfl (Nat.le_of_ble_eq_true rfl) dX2_takeClause_127 ⟨Nat.zero_le _, Nat.zero_le _⟩ hP (hD.fst rfl) hS hA [2, 3] [0, 1] [0, 1, 2, 3] rfl rfl (by decide) (by decide) rfl (by decide) (W1 := [(a_o, .inr (1, [.ref a_o_text, .ref a_o_clauses, .int o_length, .int u_10.2])), (a_o_text, .inl (cI, 100, .inl o_text)), (a_o_clauses, .inr (0, [.ref a_o_clauses_numbers, .int u_12.2.2])), (a_o_clauses_numbers, .inl (cI, 36, .inl u_12.2.1))]) rfl (fun H locs hP hS => W.eq (g2 := F0 m 130 ls [.int u_12.1]) rfl ?_)
              have hJ_13 : ∀ (y_14 : Int32) (ey_14 : y_14 = (if (¬ (u_12.1 ≤ 0)) then (1 : Int32) else (0 : Int32))) (ls : Array Slot), lv_has ls 4 [] → W p l e rmX2_takeClause s m args below meth c H locs 0 0 Q (F0 m 138 ls [.int y_14]) := by
                intro y_14 ey_14 ls hl
                subst ey_14
                obtain rfl := Option.some.inj hr
                exact hret H locs _ hP hS (fun Qc free hq hf => W.zret hx hb hrt (nz_ (nb_lit _)) hq hf dX2_takeClause_138 hlocks)
              refine lv_if_le (tgt := 137) hx hb dX2_takeClause_130 (by decide) (fun c_15 => ?_) (fun c_15 => ?_)
              · refine lv_iconst (v := (0 : Int32)) hx hb dX2_takeClause_137 (by decide) ?_
                exact hJ_13 _ (if_neg (fun h => h c_15)).symm ls (lv_sub hl [] rfl)
              · refine lv_iconst (v := (1 : Int32)) hx hb dX2_takeClause_133 (by decide) ?_
                refine lv_goto (tgt := 138) hx hb dX2_takeClause_134 (by decide) ?_
                exact hJ_13 _ (if_pos c_15).symm ls (lv_sub hl [] rfl)
          have tF_16 : ¬ ((u_1 = (109 : Int32)) ∨ (u_1 = (119 : Int32))) → W p l e rmX2_takeClause s m args below meth c H locs 0 0 Q (F0 m 113 ls []) := by
            intro hc_8
            have hr := ite_n hr hc_8
            refine lv_iconst (v := (0 : Int32)) hx hb dX2_takeClause_113 (by decide) ?_
            refine lv_istore_n (lv' := [(3, .int (0 : Int32)), (2, .int (0 : Int32)), (1, .int u_1), (0, .ref a_o)]) hx hb dX2_takeClause_114 rfl hl (by decide) rfl (fun ls hl => ?_)
            refine lv_iload_n hx hb dX2_takeClause_115 rfl (lv_at hl 0 rfl) ?_
            refine lv_iconst (v := (-1 : Int32)) hx hb dX2_takeClause_116 (by decide) ?_
            refine lv_icmp_eq (tgt := 137) hx hb dX2_takeClause_117 (by decide) (fun c_17 => ?_) (fun c_17 => ?_)
            · have hr := ite_p hr c_17
              refine lv_iconst (v := (0 : Int32)) hx hb dX2_takeClause_137 (by decide) ?_
              obtain rfl := Option.some.inj hr
              exact hret H locs _ hP hS (fun Qc free hq hf => W.zret hx hb hrt (nz_ (Or.inl rfl)) hq hf dX2_takeClause_138 hlocks)
            · have hr := ite_n hr c_17
              refine lv_aload_n hx hb dX2_takeClause_120 rfl (lv_at hl 3 rfl) ?_
              refine va_get (D := (dC, dI)) (ci := 1) (v := .ref a_o_clauses) (C := RX2) (T := TX2) (N := 4) hx hb hts iX2 hown hK hP 0 rfl rfl 1 (by decide) (hts (.fieldLink RX2 20 "PascalRows$Reader" "clauses" "LPascalRows$Lines;") (List.mem_of_getElem? (i := 2) rfl)) (fun _ h9 => h9) rfl dX2_takeClause_121 ?_
              refine lv_iload_n hx hb dX2_takeClause_124 rfl (lv_at hl 2 rfl) ?_
              refine lv_iload_n hx hb dX2_takeClause_125 rfl (lv_at hl 1 rfl) ?_
              refine lv_iload_n hx hb dX2_takeClause_126 rfl (lv_at hl 0 rfl) ?_
              obtain ⟨u_18, hu_18, hr⟩ := bd_e hr
              refine mu_V ⟨hx, hb, hml, hown, hts⟩ (k_X1_add l dC dI cI cJ a_o_clauses a_o_clauses_numbers u_1 (0 : Int32) (0 : Int32) 36 o_clauses_size o_clauses_numbers H.size u_18 hu_18) (cwV 3 hts gX2_takeClause_X1_add rfl rfl rfl (by decide +kernel) ⟨Nat.le_of_ble_eq_true rfl, Nat.le_of_ble_eq_true rfl⟩) hE 2 rfl rfl rfl rfl hl.1 rfl (Nat.le_of_ble_eq_true rfl) dX2_takeClause_127 ⟨Nat.zero_le _, Nat.zero_le _⟩ hP (hD.fst rfl) hS hA [2, 3] [0, 1] [0, 1, 2, 3] rfl rfl (by decide) (by decide) rfl (by decide) (W1 := [(a_o, .inr (1, [.ref a_o_text, .ref a_o_clauses, .int o_length, .int (o_next + (1 : Int32))])), (a_o_text, .inl (cI, 100, .inl o_text)), (a_o_clauses, .inr (0, [.ref a_o_clauses_numbers, .int u_18.2.2])), (a_o_clauses_numbers, .inl (cI, 36, .inl u_18.2.1))]) rfl (fun H locs hP hS => W.eq (g2 := F0 m 130 ls [.int u_18.1]) rfl ?_)
              have hJ_19 : ∀ (y_20 : Int32) (ey_20 : y_20 = (if (¬ (u_18.1 ≤ 0)) then (1 : Int32) else (0 : Int32))) (ls : Array Slot), lv_has ls 4 [] → W p l e rmX2_takeClause s m args below meth c H locs 0 0 Q (F0 m 138 ls [.int y_20]) := by
                intro y_20 ey_20 ls hl
                subst ey_20
                obtain rfl := Option.some.inj hr
                exact hret H locs _ hP hS (fun Qc free hq hf => W.zret hx hb hrt (nz_ (nb_lit _)) hq hf dX2_takeClause_138 hlocks)
              refine lv_if_le (tgt := 137) hx hb dX2_takeClause_130 (by decide) (fun c_21 => ?_) (fun c_21 => ?_)
              · refine lv_iconst (v := (0 : Int32)) hx hb dX2_takeClause_137 (by decide) ?_
                exact hJ_19 _ (if_neg (fun h => h c_21)).symm ls (lv_sub hl [] rfl)
              · refine lv_iconst (v := (1 : Int32)) hx hb dX2_takeClause_133 (by decide) ?_
                refine lv_goto (tgt := 138) hx hb dX2_takeClause_134 (by decide) ?_
                exact hJ_19 _ (if_pos c_21).symm ls (lv_sub hl [] rfl)
          refine lv_icmp_eq (tgt := 105) hx hb dX2_takeClause_96 (by decide) (fun c_22 => ?_) (fun c_22 => ?_)
          · exact tT_9 (Or.inl c_22)
          · refine lv_iload_n hx hb dX2_takeClause_99 rfl (lv_at hl 1 rfl) ?_
            refine lv_bipush (v := (119 : Int32)) hx hb dX2_takeClause_100 (by decide) ?_
            refine lv_icmp_ne (tgt := 113) hx hb dX2_takeClause_102 (by decide) (fun c_23 => ?_) (fun c_23 => ?_)
            · exact tF_16 (fun h => h.elim c_22 c_23)
            · exact tT_9 (Or.inr c_23)
        · have hr := ite_p hr c_7
          refine lv_aload_n hx hb dX2_takeClause_82 rfl (lv_at hl 2 rfl) ?_
          refine lv_bipush (v := (44 : Int32)) hx hb dX2_takeClause_83 (by decide) ?_
          obtain ⟨u_24, hu_24, hr⟩ := bd_e hr
          refine mu_V ⟨hx, hb, hml, hown, hts⟩ (k_X2_take l dC dI cI cJ a_o a_o_text a_o_clauses (44 : Int32) o_length (o_next + (1 : Int32)) o_text H.size u_24 hu_24) (cwV 1 hts gX2_takeClause_X2_take rfl rfl rfl (by decide +kernel) ⟨Nat.le_of_ble_eq_true rfl, Nat.le_of_ble_eq_true rfl⟩) hE 0 rfl rfl rfl rfl hl.1 rfl (Nat.le_of_ble_eq_true rfl) dX2_takeClause_85 ⟨Nat.zero_le _, Nat.zero_le _⟩ hP (hD.fst rfl) hS hA [0, 1] [2, 3] [2, 3, 0, 1] rfl rfl (by decide) (by decide) rfl (by decide) (W1 := [(a_o, .inr (1, [.ref a_o_text, .ref a_o_clauses, .int o_length, .int u_24.2])), (a_o_text, .inl (cI, 100, .inl o_text)), (a_o_clauses, .inr (0, [.ref a_o_clauses_numbers, .int o_clauses_size])), (a_o_clauses_numbers, .inl (cI, 36, .inl o_clauses_numbers))]) rfl (fun H locs hP hS => W.eq (g2 := F0 m 88 ls [.int u_24.1]) rfl ?_)
          refine lv_if_ne (tgt := 93) hx hb dX2_takeClause_88 (by decide) (fun c_25 => ?_) (fun c_25 => ?_)
          · have hr := ite_n hr c_25
            refine lv_iload_n hx hb dX2_takeClause_93 rfl (lv_at hl 1 rfl) ?_
            refine lv_bipush (v := (109 : Int32)) hx hb dX2_takeClause_94 (by decide) ?_
            have tT_27 : ((u_1 = (109 : Int32)) ∨ (u_1 = (119 : Int32))) → W p l e rmX2_takeClause s m args below meth c H locs 0 0 Q (F0 m 105 ls []) := by
              intro hc_26
              have hr := ite_p hr hc_26
              refine lv_aload_n hx hb dX2_takeClause_105 rfl (lv_at hl 2 rfl) ?_
              refine lv_iconst (v := (3 : Int32)) hx hb dX2_takeClause_106 (by decide) ?_
              obtain ⟨u_28, hu_28, hr⟩ := bd_e hr
              refine mu_V ⟨hx, hb, hml, hown, hts⟩ (k_X2_takeNumber l dC dI cI cJ a_o a_o_text a_o_clauses (3 : Int32) o_length u_24.2 o_text H.size u_28 hu_28) (cwV 1 hts gX2_takeClause_X2_takeNumber rfl rfl rfl (by decide +kernel) ⟨Nat.le_of_ble_eq_true rfl, Nat.le_of_ble_eq_true rfl⟩) hE 0 rfl rfl rfl rfl hl.1 rfl (Nat.le_of_ble_eq_true rfl) dX2_takeClause_107 ⟨Nat.zero_le _, Nat.zero_le _⟩ hP (hD.fst rfl) hS hA [0, 1] [2, 3] [2, 3, 0, 1] rfl rfl (by decide) (by decide) rfl (by decide) (W1 := [(a_o, .inr (1, [.ref a_o_text, .ref a_o_clauses, .int o_length, .int u_28.2])), (a_o_text, .inl (cI, 100, .inl o_text)), (a_o_clauses, .inr (0, [.ref a_o_clauses_numbers, .int o_clauses_size])), (a_o_clauses_numbers, .inl (cI, 36, .inl o_clauses_numbers))]) rfl (fun H locs hP hS => W.eq (g2 := F0 m 110 ls [.int u_28.1]) rfl ?_)
              refine lv_goto (tgt := 114) hx hb dX2_takeClause_110 (by decide) ?_
              refine lv_istore_n (lv' := [(3, .int u_28.1), (2, .int (0 : Int32)), (1, .int u_1), (0, .ref a_o)]) hx hb dX2_takeClause_114 rfl hl (by decide) rfl (fun ls hl => ?_)
              refine lv_iload_n hx hb dX2_takeClause_115 rfl (lv_at hl 0 rfl) ?_
              refine lv_iconst (v := (-1 : Int32)) hx hb dX2_takeClause_116 (by decide) ?_
              refine lv_icmp_eq (tgt := 137) hx hb dX2_takeClause_117 (by decide) (fun c_29 => ?_) (fun c_29 => ?_)
              · have hr := ite_p hr c_29
                refine lv_iconst (v := (0 : Int32)) hx hb dX2_takeClause_137 (by decide) ?_
                obtain rfl := Option.some.inj hr
                exact hret H locs _ hP hS (fun Qc free hq hf => W.zret hx hb hrt (nz_ (Or.inl rfl)) hq hf dX2_takeClause_138 hlocks)
              · have hr := ite_n hr c_29
                refine lv_aload_n hx hb dX2_takeClause_120 rfl (lv_at hl 3 rfl) ?_
                refine va_get (D := (dC, dI)) (ci := 1) (v := .ref a_o_clauses) (C := RX2) (T := TX2) (N := 4) hx hb hts iX2 hown hK hP 0 rfl rfl 1 (by decide) (hts (.fieldLink RX2 20 "PascalRows$Reader" "clauses" "LPascalRows$Lines;") (List.mem_of_getElem? (i := 2) rfl)) (fun _ h9 => h9) rfl dX2_takeClause_121 ?_
                refine lv_iload_n hx hb dX2_takeClause_124 rfl (lv_at hl 2 rfl) ?_
                refine lv_iload_n hx hb dX2_takeClause_125 rfl (lv_at hl 1 rfl) ?_
                refine lv_iload_n hx hb dX2_takeClause_126 rfl (lv_at hl 0 rfl) ?_
                obtain ⟨u_30, hu_30, hr⟩ := bd_e hr
                refine mu_V ⟨hx, hb, hml, hown, hts⟩ (k_X1_add l dC dI cI cJ a_o_clauses a_o_clauses_numbers u_1 (0 : Int32) u_28.1 36 o_clauses_size o_clauses_numbers H.size u_30 hu_30) (cwV 3 hts gX2_takeClause_X1_add rfl rfl rfl (by decide +kernel) ⟨Nat.le_of_ble_eq_true rfl, Nat.le_of_ble_eq_true rfl⟩) hE 2 rfl rfl rfl rfl hl.1 rfl (Nat.le_of_ble_eq_true rfl) dX2_takeClause_127 ⟨Nat.zero_le _, Nat.zero_le _⟩ hP (hD.fst rfl) hS hA [2, 3] [0, 1] [0, 1, 2, 3] rfl rfl (by decide) (by decide) rfl (by decide) (W1 := [(a_o, .inr (1, [.ref a_o_text, .ref a_o_clauses, .int o_length, .int u_28.2])), (a_o_text, .inl (cI, 100, .inl o_text)), (a_o_clauses, .inr (0, [.ref a_o_clauses_numbers, .int u_30.2.2])), (a_o_clauses_numbers, .inl (cI, 36, .inl u_30.2.1))]) rfl (fun H locs hP hS => W.eq (g2 := F0 m 130 ls [.int u_30.1]) rfl ?_)
                have hJ_31 : ∀ (y_32 : Int32) (ey_32 : y_32 = (if (¬ (u_30.1 ≤ 0)) then (1 : Int32) else (0 : Int32))) (ls : Array Slot), lv_has ls 4 [] → W p l e rmX2_takeClause s m args below meth c H locs 0 0 Q (F0 m 138 ls [.int y_32]) := by
                  intro y_32 ey_32 ls hl
                  subst ey_32
                  obtain rfl := Option.some.inj hr
                  exact hret H locs _ hP hS (fun Qc free hq hf => W.zret hx hb hrt (nz_ (nb_lit _)) hq hf dX2_takeClause_138 hlocks)
                refine lv_if_le (tgt := 137) hx hb dX2_takeClause_130 (by decide) (fun c_33 => ?_) (fun c_33 => ?_)
                · refine lv_iconst (v := (0 : Int32)) hx hb dX2_takeClause_137 (by decide) ?_
                  exact hJ_31 _ (if_neg (fun h => h c_33)).symm ls (lv_sub hl [] rfl)
                · refine lv_iconst (v := (1 : Int32)) hx hb dX2_takeClause_133 (by decide) ?_
                  refine lv_goto (tgt := 138) hx hb dX2_takeClause_134 (by decide) ?_
                  exact hJ_31 _ (if_pos c_33).symm ls (lv_sub hl [] rfl)
            have tF_34 : ¬ ((u_1 = (109 : Int32)) ∨ (u_1 = (119 : Int32))) → W p l e rmX2_takeClause s m args below meth c H locs 0 0 Q (F0 m 113 ls []) := by
              intro hc_26
              have hr := ite_n hr hc_26
              refine lv_iconst (v := (0 : Int32)) hx hb dX2_takeClause_113 (by decide) ?_
              refine lv_istore_n (lv' := [(3, .int (0 : Int32)), (2, .int (0 : Int32)), (1, .int u_1), (0, .ref a_o)]) hx hb dX2_takeClause_114 rfl hl (by decide) rfl (fun ls hl => ?_)
              refine lv_iload_n hx hb dX2_takeClause_115 rfl (lv_at hl 0 rfl) ?_
              refine lv_iconst (v := (-1 : Int32)) hx hb dX2_takeClause_116 (by decide) ?_
              refine lv_icmp_eq (tgt := 137) hx hb dX2_takeClause_117 (by decide) (fun c_35 => ?_) (fun c_35 => ?_)
              · have hr := ite_p hr c_35
                refine lv_iconst (v := (0 : Int32)) hx hb dX2_takeClause_137 (by decide) ?_
                obtain rfl := Option.some.inj hr
                exact hret H locs _ hP hS (fun Qc free hq hf => W.zret hx hb hrt (nz_ (Or.inl rfl)) hq hf dX2_takeClause_138 hlocks)
              · have hr := ite_n hr c_35
                refine lv_aload_n hx hb dX2_takeClause_120 rfl (lv_at hl 3 rfl) ?_
                refine va_get (D := (dC, dI)) (ci := 1) (v := .ref a_o_clauses) (C := RX2) (T := TX2) (N := 4) hx hb hts iX2 hown hK hP 0 rfl rfl 1 (by decide) (hts (.fieldLink RX2 20 "PascalRows$Reader" "clauses" "LPascalRows$Lines;") (List.mem_of_getElem? (i := 2) rfl)) (fun _ h9 => h9) rfl dX2_takeClause_121 ?_
                refine lv_iload_n hx hb dX2_takeClause_124 rfl (lv_at hl 2 rfl) ?_
                refine lv_iload_n hx hb dX2_takeClause_125 rfl (lv_at hl 1 rfl) ?_
                refine lv_iload_n hx hb dX2_takeClause_126 rfl (lv_at hl 0 rfl) ?_
                obtain ⟨u_36, hu_36, hr⟩ := bd_e hr
                refine mu_V ⟨hx, hb, hml, hown, hts⟩ (k_X1_add l dC dI cI cJ a_o_clauses a_o_clauses_numbers u_1 (0 : Int32) (0 : Int32) 36 o_clauses_size o_clauses_numbers H.size u_36 hu_36) (cwV 3 hts gX2_takeClause_X1_add rfl rfl rfl (by decide +kernel) ⟨Nat.le_of_ble_eq_true rfl, Nat.le_of_ble_eq_true rfl⟩) hE 2 rfl rfl rfl rfl hl.1 rfl (Nat.le_of_ble_eq_true rfl) dX2_takeClause_127 ⟨Nat.zero_le _, Nat.zero_le _⟩ hP (hD.fst rfl) hS hA [2, 3] [0, 1] [0, 1, 2, 3] rfl rfl (by decide) (by decide) rfl (by decide) (W1 := [(a_o, .inr (1, [.ref a_o_text, .ref a_o_clauses, .int o_length, .int u_24.2])), (a_o_text, .inl (cI, 100, .inl o_text)), (a_o_clauses, .inr (0, [.ref a_o_clauses_numbers, .int u_36.2.2])), (a_o_clauses_numbers, .inl (cI, 36, .inl u_36.2.1))]) rfl (fun H locs hP hS => W.eq (g2 := F0 m 130 ls [.int u_36.1]) rfl ?_)
                have hJ_37 : ∀ (y_38 : Int32) (ey_38 : y_38 = (if (¬ (u_36.1 ≤ 0)) then (1 : Int32) else (0 : Int32))) (ls : Array Slot), lv_has ls 4 [] → W p l e rmX2_takeClause s m args below meth c H locs 0 0 Q (F0 m 138 ls [.int y_38]) := by
                  intro y_38 ey_38 ls hl
                  subst ey_38
                  obtain rfl := Option.some.inj hr
                  exact hret H locs _ hP hS (fun Qc free hq hf => W.zret hx hb hrt (nz_ (nb_lit _)) hq hf dX2_takeClause_138 hlocks)
                refine lv_if_le (tgt := 137) hx hb dX2_takeClause_130 (by decide) (fun c_39 => ?_) (fun c_39 => ?_)
                · refine lv_iconst (v := (0 : Int32)) hx hb dX2_takeClause_137 (by decide) ?_
                  exact hJ_37 _ (if_neg (fun h => h c_39)).symm ls (lv_sub hl [] rfl)
                · refine lv_iconst (v := (1 : Int32)) hx hb dX2_takeClause_133 (by decide) ?_
                  refine lv_goto (tgt := 138) hx hb dX2_takeClause_134 (by decide) ?_
                  exact hJ_37 _ (if_pos c_39).symm ls (lv_sub hl [] rfl)
            refine lv_icmp_eq (tgt := 105) hx hb dX2_takeClause_96 (by decide) (fun c_40 => ?_) (fun c_40 => ?_)
            · exact tT_27 (Or.inl c_40)
            · refine lv_iload_n hx hb dX2_takeClause_99 rfl (lv_at hl 1 rfl) ?_
              refine lv_bipush (v := (119 : Int32)) hx hb dX2_takeClause_100 (by decide) ?_
              refine lv_icmp_ne (tgt := 113) hx hb dX2_takeClause_102 (by decide) (fun c_41 => ?_) (fun c_41 => ?_)
              · exact tF_34 (fun h => h.elim c_40 c_41)
              · exact tT_27 (Or.inr c_41)
          · have hr := ite_p hr c_25
            refine lv_iconst (v := (0 : Int32)) hx hb dX2_takeClause_91 (by decide) ?_
            obtain rfl := Option.some.inj hr
            exact hret H locs _ hP hS (fun Qc free hq hf => W.zret hx hb hrt (nz_ (Or.inl rfl)) hq hf dX2_takeClause_92 hlocks)
    · have hr := ite_n hr c_5
      refine lv_aload_n hx hb dX2_takeClause_55 rfl (lv_at hl 2 rfl) ?_
      refine lv_iload_n hx hb dX2_takeClause_56 rfl (lv_at hl 1 rfl) ?_
      refine lv_bipush (v := (119 : Int32)) hx hb dX2_takeClause_57 (by decide) ?_
      have hJ_42 : ∀ (y_43 : Int32) (ey_43 : y_43 = (if (¬ (u_1 = (119 : Int32))) then (1 : Int32) else (3 : Int32))) (ls : Array Slot), lv_has ls 4 [(0, .ref a_o), (1, .int u_1)] → W p l e rmX2_takeClause s m args below meth c H locs 0 0 Q (F0 m 67 ls [.int y_43, .ref a_o]) := by
        intro y_43 ey_43 ls hl
        subst ey_43
        obtain ⟨u_44, hu_44, hr⟩ := bd_e hr
        refine mu_V ⟨hx, hb, hml, hown, hts⟩ (k_X2_takeNumber l dC dI cI cJ a_o a_o_text a_o_clauses (if (¬ (u_1 = (119 : Int32))) then (1 : Int32) else (3 : Int32)) o_length (o_next + (1 : Int32)) o_text H.size u_44 hu_44) (cwV 1 hts gX2_takeClause_X2_takeNumber rfl rfl rfl (by decide +kernel) ⟨Nat.le_of_ble_eq_true rfl, Nat.le_of_ble_eq_true rfl⟩) hE 0 rfl rfl rfl rfl hl.1 rfl (Nat.le_of_ble_eq_true rfl) dX2_takeClause_67 ⟨Nat.zero_le _, Nat.zero_le _⟩ hP (hD.fst rfl) hS hA [0, 1] [2, 3] [2, 3, 0, 1] rfl rfl (by decide) (by decide) rfl (by decide) (W1 := [(a_o, .inr (1, [.ref a_o_text, .ref a_o_clauses, .int o_length, .int u_44.2])), (a_o_text, .inl (cI, 100, .inl o_text)), (a_o_clauses, .inr (0, [.ref a_o_clauses_numbers, .int o_clauses_size])), (a_o_clauses_numbers, .inl (cI, 36, .inl o_clauses_numbers))]) rfl (fun H locs hP hS => W.eq (g2 := F0 m 70 ls [.int u_44.1]) rfl ?_)
        refine lv_istore_n (lv' := [(2, .int u_44.1), (0, .ref a_o), (1, .int u_1)]) hx hb dX2_takeClause_70 rfl hl (by decide) rfl (fun ls hl => ?_)
        refine lv_iload_n hx hb dX2_takeClause_71 rfl (lv_at hl 0 rfl) ?_
        refine lv_iconst (v := (-1 : Int32)) hx hb dX2_takeClause_72 (by decide) ?_
        refine lv_icmp_eq (tgt := 91) hx hb dX2_takeClause_73 (by decide) (fun c_45 => ?_) (fun c_45 => ?_)
        · have hr := ite_p hr c_45
          refine lv_iconst (v := (0 : Int32)) hx hb dX2_takeClause_91 (by decide) ?_
          obtain rfl := Option.some.inj hr
          exact hret H locs _ hP hS (fun Qc free hq hf => W.zret hx hb hrt (nz_ (Or.inl rfl)) hq hf dX2_takeClause_92 hlocks)
        · have hr := ite_n hr c_45
          refine lv_iload_n hx hb dX2_takeClause_76 rfl (lv_at hl 2 rfl) ?_
          refine lv_bipush (v := (119 : Int32)) hx hb dX2_takeClause_77 (by decide) ?_
          refine lv_icmp_ne (tgt := 93) hx hb dX2_takeClause_79 (by decide) (fun c_46 => ?_) (fun c_46 => ?_)
          · have hr := ite_n hr c_46
            refine lv_iload_n hx hb dX2_takeClause_93 rfl (lv_at hl 2 rfl) ?_
            refine lv_bipush (v := (109 : Int32)) hx hb dX2_takeClause_94 (by decide) ?_
            have tT_48 : ((u_1 = (109 : Int32)) ∨ (u_1 = (119 : Int32))) → W p l e rmX2_takeClause s m args below meth c H locs 0 0 Q (F0 m 105 ls []) := by
              intro hc_47
              have hr := ite_p hr hc_47
              refine lv_aload_n hx hb dX2_takeClause_105 rfl (lv_at hl 1 rfl) ?_
              refine lv_iconst (v := (3 : Int32)) hx hb dX2_takeClause_106 (by decide) ?_
              obtain ⟨u_49, hu_49, hr⟩ := bd_e hr
              refine mu_V ⟨hx, hb, hml, hown, hts⟩ (k_X2_takeNumber l dC dI cI cJ a_o a_o_text a_o_clauses (3 : Int32) o_length u_44.2 o_text H.size u_49 hu_49) (cwV 1 hts gX2_takeClause_X2_takeNumber rfl rfl rfl (by decide +kernel) ⟨Nat.le_of_ble_eq_true rfl, Nat.le_of_ble_eq_true rfl⟩) hE 0 rfl rfl rfl rfl hl.1 rfl (Nat.le_of_ble_eq_true rfl) dX2_takeClause_107 ⟨Nat.zero_le _, Nat.zero_le _⟩ hP (hD.fst rfl) hS hA [0, 1] [2, 3] [2, 3, 0, 1] rfl rfl (by decide) (by decide) rfl (by decide) (W1 := [(a_o, .inr (1, [.ref a_o_text, .ref a_o_clauses, .int o_length, .int u_49.2])), (a_o_text, .inl (cI, 100, .inl o_text)), (a_o_clauses, .inr (0, [.ref a_o_clauses_numbers, .int o_clauses_size])), (a_o_clauses_numbers, .inl (cI, 36, .inl o_clauses_numbers))]) rfl (fun H locs hP hS => W.eq (g2 := F0 m 110 ls [.int u_49.1]) rfl ?_)
              refine lv_goto (tgt := 114) hx hb dX2_takeClause_110 (by decide) ?_
              refine lv_istore_n (lv' := [(3, .int u_49.1), (2, .int u_44.1), (0, .ref a_o), (1, .int u_1)]) hx hb dX2_takeClause_114 rfl hl (by decide) rfl (fun ls hl => ?_)
              refine lv_iload_n hx hb dX2_takeClause_115 rfl (lv_at hl 0 rfl) ?_
              refine lv_iconst (v := (-1 : Int32)) hx hb dX2_takeClause_116 (by decide) ?_
              refine lv_icmp_eq (tgt := 137) hx hb dX2_takeClause_117 (by decide) (fun c_50 => ?_) (fun c_50 => ?_)
              · have hr := ite_p hr c_50
                refine lv_iconst (v := (0 : Int32)) hx hb dX2_takeClause_137 (by decide) ?_
                obtain rfl := Option.some.inj hr
                exact hret H locs _ hP hS (fun Qc free hq hf => W.zret hx hb hrt (nz_ (Or.inl rfl)) hq hf dX2_takeClause_138 hlocks)
              · have hr := ite_n hr c_50
                refine lv_aload_n hx hb dX2_takeClause_120 rfl (lv_at hl 2 rfl) ?_
                refine va_get (D := (dC, dI)) (ci := 1) (v := .ref a_o_clauses) (C := RX2) (T := TX2) (N := 4) hx hb hts iX2 hown hK hP 0 rfl rfl 1 (by decide) (hts (.fieldLink RX2 20 "PascalRows$Reader" "clauses" "LPascalRows$Lines;") (List.mem_of_getElem? (i := 2) rfl)) (fun _ h9 => h9) rfl dX2_takeClause_121 ?_
                refine lv_iload_n hx hb dX2_takeClause_124 rfl (lv_at hl 3 rfl) ?_
                refine lv_iload_n hx hb dX2_takeClause_125 rfl (lv_at hl 1 rfl) ?_
                refine lv_iload_n hx hb dX2_takeClause_126 rfl (lv_at hl 0 rfl) ?_
                obtain ⟨u_51, hu_51, hr⟩ := bd_e hr
                refine mu_V ⟨hx, hb, hml, hown, hts⟩ (k_X1_add l dC dI cI cJ a_o_clauses a_o_clauses_numbers u_1 u_44.1 u_49.1 36 o_clauses_size o_clauses_numbers H.size u_51 hu_51) (cwV 3 hts gX2_takeClause_X1_add rfl rfl rfl (by decide +kernel) ⟨Nat.le_of_ble_eq_true rfl, Nat.le_of_ble_eq_true rfl⟩) hE 2 rfl rfl rfl rfl hl.1 rfl (Nat.le_of_ble_eq_true rfl) dX2_takeClause_127 ⟨Nat.zero_le _, Nat.zero_le _⟩ hP (hD.fst rfl) hS hA [2, 3] [0, 1] [0, 1, 2, 3] rfl rfl (by decide) (by decide) rfl (by decide) (W1 := [(a_o, .inr (1, [.ref a_o_text, .ref a_o_clauses, .int o_length, .int u_49.2])), (a_o_text, .inl (cI, 100, .inl o_text)), (a_o_clauses, .inr (0, [.ref a_o_clauses_numbers, .int u_51.2.2])), (a_o_clauses_numbers, .inl (cI, 36, .inl u_51.2.1))]) rfl (fun H locs hP hS => W.eq (g2 := F0 m 130 ls [.int u_51.1]) rfl ?_)
                have hJ_52 : ∀ (y_53 : Int32) (ey_53 : y_53 = (if (¬ (u_51.1 ≤ 0)) then (1 : Int32) else (0 : Int32))) (ls : Array Slot), lv_has ls 4 [] → W p l e rmX2_takeClause s m args below meth c H locs 0 0 Q (F0 m 138 ls [.int y_53]) := by
                  intro y_53 ey_53 ls hl
                  subst ey_53
                  obtain rfl := Option.some.inj hr
                  exact hret H locs _ hP hS (fun Qc free hq hf => W.zret hx hb hrt (nz_ (nb_lit _)) hq hf dX2_takeClause_138 hlocks)
                refine lv_if_le (tgt := 137) hx hb dX2_takeClause_130 (by decide) (fun c_54 => ?_) (fun c_54 => ?_)
                · refine lv_iconst (v := (0 : Int32)) hx hb dX2_takeClause_137 (by decide) ?_
                  exact hJ_52 _ (if_neg (fun h => h c_54)).symm ls (lv_sub hl [] rfl)
                · refine lv_iconst (v := (1 : Int32)) hx hb dX2_takeClause_133 (by decide) ?_
                  refine lv_goto (tgt := 138) hx hb dX2_takeClause_134 (by decide) ?_
                  exact hJ_52 _ (if_pos c_54).symm ls (lv_sub hl [] rfl)
            have tF_55 : ¬ ((u_1 = (109 : Int32)) ∨ (u_1 = (119 : Int32))) → W p l e rmX2_takeClause s m args below meth c H locs 0 0 Q (F0 m 113 ls []) := by
              intro hc_47
              have hr := ite_n hr hc_47
              refine lv_iconst (v := (0 : Int32)) hx hb dX2_takeClause_113 (by decide) ?_
              refine lv_istore_n (lv' := [(3, .int (0 : Int32)), (2, .int u_44.1), (0, .ref a_o), (1, .int u_1)]) hx hb dX2_takeClause_114 rfl hl (by decide) rfl (fun ls hl => ?_)
              refine lv_iload_n hx hb dX2_takeClause_115 rfl (lv_at hl 0 rfl) ?_
              refine lv_iconst (v := (-1 : Int32)) hx hb dX2_takeClause_116 (by decide) ?_
              refine lv_icmp_eq (tgt := 137) hx hb dX2_takeClause_117 (by decide) (fun c_56 => ?_) (fun c_56 => ?_)
              · have hr := ite_p hr c_56
                refine lv_iconst (v := (0 : Int32)) hx hb dX2_takeClause_137 (by decide) ?_
                obtain rfl := Option.some.inj hr
                exact hret H locs _ hP hS (fun Qc free hq hf => W.zret hx hb hrt (nz_ (Or.inl rfl)) hq hf dX2_takeClause_138 hlocks)
              · have hr := ite_n hr c_56
                refine lv_aload_n hx hb dX2_takeClause_120 rfl (lv_at hl 2 rfl) ?_
                refine va_get (D := (dC, dI)) (ci := 1) (v := .ref a_o_clauses) (C := RX2) (T := TX2) (N := 4) hx hb hts iX2 hown hK hP 0 rfl rfl 1 (by decide) (hts (.fieldLink RX2 20 "PascalRows$Reader" "clauses" "LPascalRows$Lines;") (List.mem_of_getElem? (i := 2) rfl)) (fun _ h9 => h9) rfl dX2_takeClause_121 ?_
                refine lv_iload_n hx hb dX2_takeClause_124 rfl (lv_at hl 3 rfl) ?_
                refine lv_iload_n hx hb dX2_takeClause_125 rfl (lv_at hl 1 rfl) ?_
                refine lv_iload_n hx hb dX2_takeClause_126 rfl (lv_at hl 0 rfl) ?_
                obtain ⟨u_57, hu_57, hr⟩ := bd_e hr
                refine mu_V ⟨hx, hb, hml, hown, hts⟩ (k_X1_add l dC dI cI cJ a_o_clauses a_o_clauses_numbers u_1 u_44.1 (0 : Int32) 36 o_clauses_size o_clauses_numbers H.size u_57 hu_57) (cwV 3 hts gX2_takeClause_X1_add rfl rfl rfl (by decide +kernel) ⟨Nat.le_of_ble_eq_true rfl, Nat.le_of_ble_eq_true rfl⟩) hE 2 rfl rfl rfl rfl hl.1 rfl (Nat.le_of_ble_eq_true rfl) dX2_takeClause_127 ⟨Nat.zero_le _, Nat.zero_le _⟩ hP (hD.fst rfl) hS hA [2, 3] [0, 1] [0, 1, 2, 3] rfl rfl (by decide) (by decide) rfl (by decide) (W1 := [(a_o, .inr (1, [.ref a_o_text, .ref a_o_clauses, .int o_length, .int u_44.2])), (a_o_text, .inl (cI, 100, .inl o_text)), (a_o_clauses, .inr (0, [.ref a_o_clauses_numbers, .int u_57.2.2])), (a_o_clauses_numbers, .inl (cI, 36, .inl u_57.2.1))]) rfl (fun H locs hP hS => W.eq (g2 := F0 m 130 ls [.int u_57.1]) rfl ?_)
                have hJ_58 : ∀ (y_59 : Int32) (ey_59 : y_59 = (if (¬ (u_57.1 ≤ 0)) then (1 : Int32) else (0 : Int32))) (ls : Array Slot), lv_has ls 4 [] → W p l e rmX2_takeClause s m args below meth c H locs 0 0 Q (F0 m 138 ls [.int y_59]) := by
                  intro y_59 ey_59 ls hl
                  subst ey_59
                  obtain rfl := Option.some.inj hr
                  exact hret H locs _ hP hS (fun Qc free hq hf => W.zret hx hb hrt (nz_ (nb_lit _)) hq hf dX2_takeClause_138 hlocks)
                refine lv_if_le (tgt := 137) hx hb dX2_takeClause_130 (by decide) (fun c_60 => ?_) (fun c_60 => ?_)
                · refine lv_iconst (v := (0 : Int32)) hx hb dX2_takeClause_137 (by decide) ?_
                  exact hJ_58 _ (if_neg (fun h => h c_60)).symm ls (lv_sub hl [] rfl)
                · refine lv_iconst (v := (1 : Int32)) hx hb dX2_takeClause_133 (by decide) ?_
                  refine lv_goto (tgt := 138) hx hb dX2_takeClause_134 (by decide) ?_
                  exact hJ_58 _ (if_pos c_60).symm ls (lv_sub hl [] rfl)
            refine lv_icmp_eq (tgt := 105) hx hb dX2_takeClause_96 (by decide) (fun c_61 => ?_) (fun c_61 => ?_)
            · exact tT_48 (Or.inl c_61)
            · refine lv_iload_n hx hb dX2_takeClause_99 rfl (lv_at hl 2 rfl) ?_
              refine lv_bipush (v := (119 : Int32)) hx hb dX2_takeClause_100 (by decide) ?_
              refine lv_icmp_ne (tgt := 113) hx hb dX2_takeClause_102 (by decide) (fun c_62 => ?_) (fun c_62 => ?_)
              · exact tF_55 (fun h => h.elim c_61 c_62)
              · exact tT_48 (Or.inr c_62)
          · have hr := ite_p hr c_46
            refine lv_aload_n hx hb dX2_takeClause_82 rfl (lv_at hl 1 rfl) ?_
            refine lv_bipush (v := (44 : Int32)) hx hb dX2_takeClause_83 (by decide) ?_
            obtain ⟨u_63, hu_63, hr⟩ := bd_e hr
            refine mu_V ⟨hx, hb, hml, hown, hts⟩ (k_X2_take l dC dI cI cJ a_o a_o_text a_o_clauses (44 : Int32) o_length u_44.2 o_text H.size u_63 hu_63) (cwV 1 hts gX2_takeClause_X2_take rfl rfl rfl (by decide +kernel) ⟨Nat.le_of_ble_eq_true rfl, Nat.le_of_ble_eq_true rfl⟩) hE 0 rfl rfl rfl rfl hl.1 rfl (Nat.le_of_ble_eq_true rfl) dX2_takeClause_85 ⟨Nat.zero_le _, Nat.zero_le _⟩ hP (hD.fst rfl) hS hA [0, 1] [2, 3] [2, 3, 0, 1] rfl rfl (by decide) (by decide) rfl (by decide) (W1 := [(a_o, .inr (1, [.ref a_o_text, .ref a_o_clauses, .int o_length, .int u_63.2])), (a_o_text, .inl (cI, 100, .inl o_text)), (a_o_clauses, .inr (0, [.ref a_o_clauses_numbers, .int o_clauses_size])), (a_o_clauses_numbers, .inl (cI, 36, .inl o_clauses_numbers))]) rfl (fun H locs hP hS => W.eq (g2 := F0 m 88 ls [.int u_63.1]) rfl ?_)
            refine lv_if_ne (tgt := 93) hx hb dX2_takeClause_88 (by decide) (fun c_64 => ?_) (fun c_64 => ?_)
            · have hr := ite_n hr c_64
              refine lv_iload_n hx hb dX2_takeClause_93 rfl (lv_at hl 2 rfl) ?_
              refine lv_bipush (v := (109 : Int32)) hx hb dX2_takeClause_94 (by decide) ?_
              have tT_66 : ((u_1 = (109 : Int32)) ∨ (u_1 = (119 : Int32))) → W p l e rmX2_takeClause s m args below meth c H locs 0 0 Q (F0 m 105 ls []) := by
                intro hc_65
                have hr := ite_p hr hc_65
                refine lv_aload_n hx hb dX2_takeClause_105 rfl (lv_at hl 1 rfl) ?_
                refine lv_iconst (v := (3 : Int32)) hx hb dX2_takeClause_106 (by decide) ?_
                obtain ⟨u_67, hu_67, hr⟩ := bd_e hr
                refine mu_V ⟨hx, hb, hml, hown, hts⟩ (k_X2_takeNumber l dC dI cI cJ a_o a_o_text a_o_clauses (3 : Int32) o_length u_63.2 o_text H.size u_67 hu_67) (cwV 1 hts gX2_takeClause_X2_takeNumber rfl rfl rfl (by decide +kernel) ⟨Nat.le_of_ble_eq_true rfl, Nat.le_of_ble_eq_true rfl⟩) hE 0 rfl rfl rfl rfl hl.1 rfl (Nat.le_of_ble_eq_true rfl) dX2_takeClause_107 ⟨Nat.zero_le _, Nat.zero_le _⟩ hP (hD.fst rfl) hS hA [0, 1] [2, 3] [2, 3, 0, 1] rfl rfl (by decide) (by decide) rfl (by decide) (W1 := [(a_o, .inr (1, [.ref a_o_text, .ref a_o_clauses, .int o_length, .int u_67.2])), (a_o_text, .inl (cI, 100, .inl o_text)), (a_o_clauses, .inr (0, [.ref a_o_clauses_numbers, .int o_clauses_size])), (a_o_clauses_numbers, .inl (cI, 36, .inl o_clauses_numbers))]) rfl (fun H locs hP hS => W.eq (g2 := F0 m 110 ls [.int u_67.1]) rfl ?_)
                refine lv_goto (tgt := 114) hx hb dX2_takeClause_110 (by decide) ?_
                refine lv_istore_n (lv' := [(3, .int u_67.1), (2, .int u_44.1), (0, .ref a_o), (1, .int u_1)]) hx hb dX2_takeClause_114 rfl hl (by decide) rfl (fun ls hl => ?_)
                refine lv_iload_n hx hb dX2_takeClause_115 rfl (lv_at hl 0 rfl) ?_
                refine lv_iconst (v := (-1 : Int32)) hx hb dX2_takeClause_116 (by decide) ?_
                refine lv_icmp_eq (tgt := 137) hx hb dX2_takeClause_117 (by decide) (fun c_68 => ?_) (fun c_68 => ?_)
                · have hr := ite_p hr c_68
                  refine lv_iconst (v := (0 : Int32)) hx hb dX2_takeClause_137 (by decide) ?_
                  obtain rfl := Option.some.inj hr
                  exact hret H locs _ hP hS (fun Qc free hq hf => W.zret hx hb hrt (nz_ (Or.inl rfl)) hq hf dX2_takeClause_138 hlocks)
                · have hr := ite_n hr c_68
                  refine lv_aload_n hx hb dX2_takeClause_120 rfl (lv_at hl 2 rfl) ?_
                  refine va_get (D := (dC, dI)) (ci := 1) (v := .ref a_o_clauses) (C := RX2) (T := TX2) (N := 4) hx hb hts iX2 hown hK hP 0 rfl rfl 1 (by decide) (hts (.fieldLink RX2 20 "PascalRows$Reader" "clauses" "LPascalRows$Lines;") (List.mem_of_getElem? (i := 2) rfl)) (fun _ h9 => h9) rfl dX2_takeClause_121 ?_
                  refine lv_iload_n hx hb dX2_takeClause_124 rfl (lv_at hl 3 rfl) ?_
                  refine lv_iload_n hx hb dX2_takeClause_125 rfl (lv_at hl 1 rfl) ?_
                  refine lv_iload_n hx hb dX2_takeClause_126 rfl (lv_at hl 0 rfl) ?_
                  obtain ⟨u_69, hu_69, hr⟩ := bd_e hr
                  refine mu_V ⟨hx, hb, hml, hown, hts⟩ (k_X1_add l dC dI cI cJ a_o_clauses a_o_clauses_numbers u_1 u_44.1 u_67.1 36 o_clauses_size o_clauses_numbers H.size u_69 hu_69) (cwV 3 hts gX2_takeClause_X1_add rfl rfl rfl (by decide +kernel) ⟨Nat.le_of_ble_eq_true rfl, Nat.le_of_ble_eq_true rfl⟩) hE 2 rfl rfl rfl rfl hl.1 rfl (Nat.le_of_ble_eq_true rfl) dX2_takeClause_127 ⟨Nat.zero_le _, Nat.zero_le _⟩ hP (hD.fst rfl) hS hA [2, 3] [0, 1] [0, 1, 2, 3] rfl rfl (by decide) (by decide) rfl (by decide) (W1 := [(a_o, .inr (1, [.ref a_o_text, .ref a_o_clauses, .int o_length, .int u_67.2])), (a_o_text, .inl (cI, 100, .inl o_text)), (a_o_clauses, .inr (0, [.ref a_o_clauses_numbers, .int u_69.2.2])), (a_o_clauses_numbers, .inl (cI, 36, .inl u_69.2.1))]) rfl (fun H locs hP hS => W.eq (g2 := F0 m 130 ls [.int u_69.1]) rfl ?_)
                  have hJ_70 : ∀ (y_71 : Int32) (ey_71 : y_71 = (if (¬ (u_69.1 ≤ 0)) then (1 : Int32) else (0 : Int32))) (ls : Array Slot), lv_has ls 4 [] → W p l e rmX2_takeClause s m args below meth c H locs 0 0 Q (F0 m 138 ls [.int y_71]) := by
                    intro y_71 ey_71 ls hl
                    subst ey_71
                    obtain rfl := Option.some.inj hr
                    exact hret H locs _ hP hS (fun Qc free hq hf => W.zret hx hb hrt (nz_ (nb_lit _)) hq hf dX2_takeClause_138 hlocks)
                  refine lv_if_le (tgt := 137) hx hb dX2_takeClause_130 (by decide) (fun c_72 => ?_) (fun c_72 => ?_)
                  · refine lv_iconst (v := (0 : Int32)) hx hb dX2_takeClause_137 (by decide) ?_
                    exact hJ_70 _ (if_neg (fun h => h c_72)).symm ls (lv_sub hl [] rfl)
                  · refine lv_iconst (v := (1 : Int32)) hx hb dX2_takeClause_133 (by decide) ?_
                    refine lv_goto (tgt := 138) hx hb dX2_takeClause_134 (by decide) ?_
                    exact hJ_70 _ (if_pos c_72).symm ls (lv_sub hl [] rfl)
              have tF_73 : ¬ ((u_1 = (109 : Int32)) ∨ (u_1 = (119 : Int32))) → W p l e rmX2_takeClause s m args below meth c H locs 0 0 Q (F0 m 113 ls []) := by
                intro hc_65
                have hr := ite_n hr hc_65
                refine lv_iconst (v := (0 : Int32)) hx hb dX2_takeClause_113 (by decide) ?_
                refine lv_istore_n (lv' := [(3, .int (0 : Int32)), (2, .int u_44.1), (0, .ref a_o), (1, .int u_1)]) hx hb dX2_takeClause_114 rfl hl (by decide) rfl (fun ls hl => ?_)
                refine lv_iload_n hx hb dX2_takeClause_115 rfl (lv_at hl 0 rfl) ?_
                refine lv_iconst (v := (-1 : Int32)) hx hb dX2_takeClause_116 (by decide) ?_
                refine lv_icmp_eq (tgt := 137) hx hb dX2_takeClause_117 (by decide) (fun c_74 => ?_) (fun c_74 => ?_)
                · have hr := ite_p hr c_74
                  refine lv_iconst (v := (0 : Int32)) hx hb dX2_takeClause_137 (by decide) ?_
                  obtain rfl := Option.some.inj hr
                  exact hret H locs _ hP hS (fun Qc free hq hf => W.zret hx hb hrt (nz_ (Or.inl rfl)) hq hf dX2_takeClause_138 hlocks)
                · have hr := ite_n hr c_74
                  refine lv_aload_n hx hb dX2_takeClause_120 rfl (lv_at hl 2 rfl) ?_
                  refine va_get (D := (dC, dI)) (ci := 1) (v := .ref a_o_clauses) (C := RX2) (T := TX2) (N := 4) hx hb hts iX2 hown hK hP 0 rfl rfl 1 (by decide) (hts (.fieldLink RX2 20 "PascalRows$Reader" "clauses" "LPascalRows$Lines;") (List.mem_of_getElem? (i := 2) rfl)) (fun _ h9 => h9) rfl dX2_takeClause_121 ?_
                  refine lv_iload_n hx hb dX2_takeClause_124 rfl (lv_at hl 3 rfl) ?_
                  refine lv_iload_n hx hb dX2_takeClause_125 rfl (lv_at hl 1 rfl) ?_
                  refine lv_iload_n hx hb dX2_takeClause_126 rfl (lv_at hl 0 rfl) ?_
                  obtain ⟨u_75, hu_75, hr⟩ := bd_e hr
                  refine mu_V ⟨hx, hb, hml, hown, hts⟩ (k_X1_add l dC dI cI cJ a_o_clauses a_o_clauses_numbers u_1 u_44.1 (0 : Int32) 36 o_clauses_size o_clauses_numbers H.size u_75 hu_75) (cwV 3 hts gX2_takeClause_X1_add rfl rfl rfl (by decide +kernel) ⟨Nat.le_of_ble_eq_true rfl, Nat.le_of_ble_eq_true rfl⟩) hE 2 rfl rfl rfl rfl hl.1 rfl (Nat.le_of_ble_eq_true rfl) dX2_takeClause_127 ⟨Nat.zero_le _, Nat.zero_le _⟩ hP (hD.fst rfl) hS hA [2, 3] [0, 1] [0, 1, 2, 3] rfl rfl (by decide) (by decide) rfl (by decide) (W1 := [(a_o, .inr (1, [.ref a_o_text, .ref a_o_clauses, .int o_length, .int u_63.2])), (a_o_text, .inl (cI, 100, .inl o_text)), (a_o_clauses, .inr (0, [.ref a_o_clauses_numbers, .int u_75.2.2])), (a_o_clauses_numbers, .inl (cI, 36, .inl u_75.2.1))]) rfl (fun H locs hP hS => W.eq (g2 := F0 m 130 ls [.int u_75.1]) rfl ?_)
                  have hJ_76 : ∀ (y_77 : Int32) (ey_77 : y_77 = (if (¬ (u_75.1 ≤ 0)) then (1 : Int32) else (0 : Int32))) (ls : Array Slot), lv_has ls 4 [] → W p l e rmX2_takeClause s m args below meth c H locs 0 0 Q (F0 m 138 ls [.int y_77]) := by
                    intro y_77 ey_77 ls hl
                    subst ey_77
                    obtain rfl := Option.some.inj hr
                    exact hret H locs _ hP hS (fun Qc free hq hf => W.zret hx hb hrt (nz_ (nb_lit _)) hq hf dX2_takeClause_138 hlocks)
                  refine lv_if_le (tgt := 137) hx hb dX2_takeClause_130 (by decide) (fun c_78 => ?_) (fun c_78 => ?_)
                  · refine lv_iconst (v := (0 : Int32)) hx hb dX2_takeClause_137 (by decide) ?_
                    exact hJ_76 _ (if_neg (fun h => h c_78)).symm ls (lv_sub hl [] rfl)
                  · refine lv_iconst (v := (1 : Int32)) hx hb dX2_takeClause_133 (by decide) ?_
                    refine lv_goto (tgt := 138) hx hb dX2_takeClause_134 (by decide) ?_
                    exact hJ_76 _ (if_pos c_78).symm ls (lv_sub hl [] rfl)
              refine lv_icmp_eq (tgt := 105) hx hb dX2_takeClause_96 (by decide) (fun c_79 => ?_) (fun c_79 => ?_)
              · exact tT_66 (Or.inl c_79)
              · refine lv_iload_n hx hb dX2_takeClause_99 rfl (lv_at hl 2 rfl) ?_
                refine lv_bipush (v := (119 : Int32)) hx hb dX2_takeClause_100 (by decide) ?_
                refine lv_icmp_ne (tgt := 113) hx hb dX2_takeClause_102 (by decide) (fun c_80 => ?_) (fun c_80 => ?_)
                · exact tF_73 (fun h => h.elim c_79 c_80)
                · exact tT_66 (Or.inr c_80)
            · have hr := ite_p hr c_64
              refine lv_iconst (v := (0 : Int32)) hx hb dX2_takeClause_91 (by decide) ?_
              obtain rfl := Option.some.inj hr
              exact hret H locs _ hP hS (fun Qc free hq hf => W.zret hx hb hrt (nz_ (Or.inl rfl)) hq hf dX2_takeClause_92 hlocks)
      refine lv_icmp_ne (tgt := 66) hx hb dX2_takeClause_59 (by decide) (fun c_81 => ?_) (fun c_81 => ?_)
      · refine lv_iconst (v := (1 : Int32)) hx hb dX2_takeClause_66 (by decide) ?_
        exact hJ_42 _ (if_pos c_81).symm ls (lv_sub hl [2, 1] rfl)
      · refine lv_iconst (v := (3 : Int32)) hx hb dX2_takeClause_62 (by decide) ?_
        refine lv_goto (tgt := 67) hx hb dX2_takeClause_63 (by decide) ?_
        exact hJ_42 _ (if_neg (fun h => h c_81)).symm ls (lv_sub hl [2, 1] rfl)
  refine lv_icmp_eq (tgt := 37) hx hb dX2_takeClause_8 (by decide) (fun c_82 => ?_) (fun c_82 => ?_)
  · exact tF_4 (fun h => (fun h => h c_82) h.1)
  · refine lv_iload_n hx hb dX2_takeClause_11 rfl (lv_at hl 0 rfl) ?_
    refine lv_bipush (v := (101 : Int32)) hx hb dX2_takeClause_12 (by decide) ?_
    refine lv_icmp_eq (tgt := 37) hx hb dX2_takeClause_14 (by decide) (fun c_83 => ?_) (fun c_83 => ?_)
    · exact tF_4 (fun h => (fun h => (fun h => h c_83) h.1) h.2)
    · refine lv_iload_n hx hb dX2_takeClause_17 rfl (lv_at hl 0 rfl) ?_
      refine lv_bipush (v := (109 : Int32)) hx hb dX2_takeClause_18 (by decide) ?_
      refine lv_icmp_eq (tgt := 37) hx hb dX2_takeClause_20 (by decide) (fun c_84 => ?_) (fun c_84 => ?_)
      · exact tF_4 (fun h => (fun h => (fun h => (fun h => h c_84) h.1) h.2) h.2)
      · refine lv_iload_n hx hb dX2_takeClause_23 rfl (lv_at hl 0 rfl) ?_
        refine lv_bipush (v := (120 : Int32)) hx hb dX2_takeClause_24 (by decide) ?_
        refine lv_icmp_eq (tgt := 37) hx hb dX2_takeClause_26 (by decide) (fun c_85 => ?_) (fun c_85 => ?_)
        · exact tF_4 (fun h => (fun h => (fun h => (fun h => (fun h => h c_85) h.1) h.2) h.2) h.2)
        · refine lv_iload_n hx hb dX2_takeClause_29 rfl (lv_at hl 0 rfl) ?_
          refine lv_bipush (v := (119 : Int32)) hx hb dX2_takeClause_30 (by decide) ?_
          refine lv_icmp_eq (tgt := 37) hx hb dX2_takeClause_32 (by decide) (fun c_86 => ?_) (fun c_86 => ?_)
          · exact tF_4 (fun h => (fun h => (fun h => (fun h => (fun h => h c_86) h.2) h.2) h.2) h.2)
          · exact tT_3 ⟨c_82, ⟨c_83, ⟨c_84, ⟨c_85, c_86⟩⟩⟩⟩
/-! X2_faultOfText -/
def rmX2_faultOfText : Room := { frames := 3, cells := 0, slots := 0, locals := 69 }
set_option maxHeartbeats 4000000 in
set_option maxRecDepth 100000 in
theorem k_X2_faultOfText (l : Launch) (dC : Nat → ClassId) (dI : Nat → Nat → Nat) (cI cJ : ClassId) (a_o : Nat) (a_o_text : Nat) (a_o_clauses : Nat) (a_o_clauses_numbers : Nat) (o_length : Int32) (o_next : Int32) (o_text : Nat → Int32) (o_clauses_size : Int32) (o_clauses_numbers : Nat → Int32) (sz : Nat) (r : Int32 × (Nat → Int32) × Int32 × Int32) (hr : f_X2_faultOfText o_text o_clauses_numbers o_clauses_size o_length o_next = some r) : Met l yX2_faultOfText wsX2_faultOfText rmX2_faultOfText (va_Pc [.ref a_o] (pM (dC, dI) cI cJ [(a_o, .inr (1, [.ref a_o_text, .ref a_o_clauses, .int o_length, .int o_next])), (a_o_text, .inl (cI, 100, .inl o_text)), (a_o_clauses, .inr (0, [.ref a_o_clauses_numbers, .int o_clauses_size])), (a_o_clauses_numbers, .inl (cI, 36, .inl o_clauses_numbers))] sz)) (qM (some (.int r.1)) (dC, dI) [(a_o, .inr (1, [.ref a_o_text, .ref a_o_clauses, .int o_length, .int r.2.2.2])), (a_o_text, .inl (cI, 100, .inl o_text)), (a_o_clauses, .inr (0, [.ref a_o_clauses_numbers, .int r.2.2.1])), (a_o_clauses_numbers, .inl (cI, 36, .inl r.2.1))] (va_A [(a_o, .inr (1, [.ref a_o_text, .ref a_o_clauses, .int o_length, .int o_next])), (a_o_text, .inl (cI, 100, .inl o_text)), (a_o_clauses, .inr (0, [.ref a_o_clauses_numbers, .int o_clauses_size])), (a_o_clauses_numbers, .inl (cI, 36, .inl o_clauses_numbers))] sz)) 0 0 (va_A [(a_o, .inr (1, [.ref a_o_text, .ref a_o_clauses, .int o_length, .int o_next])), (a_o_text, .inl (cI, 100, .inl o_text)), (a_o_clauses, .inr (0, [.ref a_o_clauses_numbers, .int o_clauses_size])), (a_o_clauses_numbers, .inl (cI, 36, .inl o_clauses_numbers))] sz) := by
  refine mu_of (cc := cX2_faultOfText) (maxL := 2) (by decide) rfl (Nat.le_of_ble_eq_true rfl) ?_
  intro p e s m args below meth c Q ls A hx hb hml hown hts hE hP hD hA hrt hlocks hret hl
  have hK := hE.1
  have hS : va_S A s.heap s.heap [] := va_S.rf
  have hl : lv_has ls 2 [(0, .ref a_o)] := hl
  unfold f_X2_faultOfText at hr
  obtain ⟨H, hHe⟩ : ∃ H, H = s.heap := ⟨_, rfl⟩
  obtain ⟨locs, hLe⟩ : ∃ locs : List Loc, locs = [] := ⟨_, rfl⟩
  suffices hgo : va_P (dC, dI) vwCl [(a_o, .inr (1, [.ref a_o_text, .ref a_o_clauses, .int o_length, .int o_next])), (a_o_text, .inl (cI, 100, .inl o_text)), (a_o_clauses, .inr (0, [.ref a_o_clauses_numbers, .int o_clauses_size])), (a_o_clauses_numbers, .inl (cI, 36, .inl o_clauses_numbers))] H → va_S A s.heap H locs → W p l e rmX2_faultOfText s m args below meth c H locs 0 0 Q (F0 m 0 ls []) by
    subst hHe; subst hLe; exact hgo hP hS
  clear hP hS hHe hLe
  intro hP hS
  have iX1 : ∀ w ∈ wsX10, w ∈ wsX2_faultOfText := memr_ (big := wsX2_faultOfText) wsX10 [44, 45] (by decide +kernel)
  have iX2 : ∀ w ∈ wsX20, w ∈ wsX2_faultOfText := memr_ (big := wsX2_faultOfText) wsX20 [40, 41, 42, 43] (by decide +kernel)
  refine lv_aload_n hx hb dX2_faultOfText_0 rfl (lv_at hl 0 rfl) ?_
  refine va_get (D := (dC, dI)) (ci := 1) (v := .ref a_o_clauses) (C := RX2) (T := TX2) (N := 4) hx hb hts iX2 hown hK hP 0 rfl rfl 1 (by decide) (hts (.fieldLink RX2 20 "PascalRows$Reader" "clauses" "LPascalRows$Lines;") (List.mem_of_getElem? (i := 1) rfl)) (fun _ h9 => h9) rfl dX2_faultOfText_1 ?_
  obtain ⟨u_1, hu_1, hr⟩ := bd_e hr
  refine mu_V ⟨hx, hb, hml, hown, hts⟩ (k_X1_empty l dC dI cI cJ a_o_clauses a_o_clauses_numbers o_clauses_size H.size u_1 hu_1) (cwV 0 hts gX2_faultOfText_X1_empty rfl rfl rfl (by decide +kernel) ⟨Nat.le_of_ble_eq_true rfl, Nat.le_of_ble_eq_true rfl⟩) hE 2 rfl rfl rfl rfl hl.1 rfl (Nat.le_of_ble_eq_true rfl) dX2_faultOfText_4 ⟨Nat.zero_le _, Nat.zero_le _⟩ hP (hD.fst rfl) hS hA [2] [0, 1, 3] [0, 1, 3, 2] rfl rfl (by decide) (by decide) rfl (by decide) (W1 := [(a_o, .inr (1, [.ref a_o_text, .ref a_o_clauses, .int o_length, .int o_next])), (a_o_text, .inl (cI, 100, .inl o_text)), (a_o_clauses, .inr (0, [.ref a_o_clauses_numbers, .int u_1])), (a_o_clauses_numbers, .inl (cI, 36, .inl o_clauses_numbers))]) rfl (fun H locs hP hS => W.eq (g2 := F0 m 7 ls []) rfl ?_)
  refine lv_aload_n hx hb dX2_faultOfText_7 rfl (lv_at hl 0 rfl) ?_
  refine lv_iconst (v := (0 : Int32)) hx hb dX2_faultOfText_8 (by decide) ?_
  refine va_put (D := (dC, dI)) (ci := 1) (v := .int (0 : Int32)) (ty := .int) (C := RX2) (T := TX2) (N := 4) hx hb hts iX2 tyX2 tyX2_ok nmX2 hown hK hP (hD.fst rfl) hS 0 rfl rfl 3 (by decide) (hts (.fieldLink RX2 31 "PascalRows$Reader" "next" "I") (List.mem_of_getElem? (i := 2) rfl)) (fun _ h9 => h9) rfl (by decide +kernel) rfl rfl (Nat.le_of_ble_eq_true rfl) dX2_faultOfText_9 (fun H locs hP _ hS => ?_)
  have hP : va_P (dC, dI) vwCl [(a_o, .inr (1, [.ref a_o_text, .ref a_o_clauses, .int o_length, .int (0 : Int32)])), (a_o_text, .inl (cI, 100, .inl o_text)), (a_o_clauses, .inr (0, [.ref a_o_clauses_numbers, .int u_1])), (a_o_clauses_numbers, .inl (cI, 36, .inl o_clauses_numbers))] H := hP
  refine lv_iconst (v := (0 : Int32)) hx hb dX2_faultOfText_12 (by decide) ?_
  refine lv_istore_n (lv' := [(1, .int (0 : Int32)), (0, .ref a_o)]) hx hb dX2_faultOfText_13 rfl hl (by decide) rfl (fun ls hl => ?_)
  have hL14 : ∀  (k_14 : (Nat → Int32) → (Int32) → (Int32) → Option (Int32 × (Nat → Int32) × Int32 × Int32)) (hk : ∀ (xc_o_clauses_numbers_14 : Nat → Int32) (xc_o_clauses_size_14 : Int32) (xc_o_next_14 : Int32) (ls : Array Slot), lv_has ls 2 [(0, .ref a_o)] → ∀ (H : Heap) (locs : List Loc), va_P (dC, dI) vwCl [(a_o, .inr (1, [.ref a_o_text, .ref a_o_clauses, .int o_length, .int xc_o_next_14])), (a_o_text, .inl (cI, 100, .inl o_text)), (a_o_clauses, .inr (0, [.ref a_o_clauses_numbers, .int xc_o_clauses_size_14])), (a_o_clauses_numbers, .inl (cI, 36, .inl xc_o_clauses_numbers_14))] H → va_S A s.heap H locs →  k_14 xc_o_clauses_numbers_14 xc_o_clauses_size_14 xc_o_next_14 = some r → W p l e rmX2_faultOfText s m args below meth c H locs 0 0 Q (F0 m 71 ls [])) (fuel : Nat) (v1_14 : Int32) (o_clauses_numbers_14 : Nat → Int32) (o_clauses_size_14 : Int32) (o_next_14 : Int32) (ls : Array Slot), lv_has ls 2 [(0, .ref a_o), (1, .int v1_14)] → ∀ (H : Heap) (locs : List Loc), va_P (dC, dI) vwCl [(a_o, .inr (1, [.ref a_o_text, .ref a_o_clauses, .int o_length, .int o_next_14])), (a_o_text, .inl (cI, 100, .inl o_text)), (a_o_clauses, .inr (0, [.ref a_o_clauses_numbers, .int o_clauses_size_14])), (a_o_clauses_numbers, .inl (cI, 36, .inl o_clauses_numbers_14))] H → va_S A s.heap H locs → f_X2_faultOfText_L14 k_14 o_text o_length fuel v1_14 o_clauses_numbers_14 o_clauses_size_14 o_next_14 = some r → W p l e rmX2_faultOfText s m args below meth c H locs 0 0 Q (F0 m 14 ls []) := by
    intro k_14 hk fuel
    induction fuel with
    | zero =>
      intro v1_14 o_clauses_numbers_14 o_clauses_size_14 o_next_14 ls hl H locs hP hS hr
      rw [f_X2_faultOfText_L14_z] at hr
      cases hr
    | succ fuel ih =>
      intro v1_14 o_clauses_numbers_14 o_clauses_size_14 o_next_14 ls hl H locs hP hS hr
      rw [f_X2_faultOfText_L14_s] at hr
      refine lv_iload_n hx hb dX2_faultOfText_14 rfl (lv_at hl 1 rfl) ?_
      refine lv_bipush (v := (12 : Int32)) hx hb dX2_faultOfText_15 (by decide) ?_
      refine lv_icmp_ge (tgt := 71) hx hb dX2_faultOfText_17 (by decide) (fun c_2 => ?_) (fun c_2 => ?_)
      · have hr := ite_p hr c_2
        exact hk o_clauses_numbers_14 o_clauses_size_14 o_next_14 ls (lv_sub hl [0] rfl) H locs hP hS hr
      · have hr := ite_n hr c_2
        refine lv_aload_n hx hb dX2_faultOfText_20 rfl (lv_at hl 0 rfl) ?_
        obtain ⟨u_3, hu_3, hr⟩ := bd_e hr
        refine mu_V ⟨hx, hb, hml, hown, hts⟩ (k_X2_takeClause l dC dI cI cJ a_o a_o_text a_o_clauses a_o_clauses_numbers o_length o_next_14 o_text o_clauses_size_14 o_clauses_numbers_14 H.size u_3 hu_3) (cwV 0 hts gX2_faultOfText_X2_takeClause rfl rfl rfl (by decide +kernel) ⟨Nat.le_of_ble_eq_true rfl, Nat.le_of_ble_eq_true rfl⟩) hE 0 rfl rfl rfl rfl hl.1 rfl (Nat.le_of_ble_eq_true rfl) dX2_faultOfText_21 ⟨Nat.zero_le _, Nat.zero_le _⟩ hP (hD.fst rfl) hS hA [0, 1, 2, 3] [] [0, 1, 2, 3] rfl rfl (by decide) (by decide) rfl (by decide) (W1 := [(a_o, .inr (1, [.ref a_o_text, .ref a_o_clauses, .int o_length, .int u_3.2.2.2])), (a_o_text, .inl (cI, 100, .inl o_text)), (a_o_clauses, .inr (0, [.ref a_o_clauses_numbers, .int u_3.2.2.1])), (a_o_clauses_numbers, .inl (cI, 36, .inl u_3.2.1))]) rfl (fun H locs hP hS => W.eq (g2 := F0 m 24 ls [.int u_3.1]) rfl ?_)
        refine lv_if_ne (tgt := 32) hx hb dX2_faultOfText_24 (by decide) (fun c_4 => ?_) (fun c_4 => ?_)
        · have hr := ite_n hr c_4
          refine lv_aload_n hx hb dX2_faultOfText_32 rfl (lv_at hl 0 rfl) ?_
          refine va_get (D := (dC, dI)) (ci := 1) (v := .int u_3.2.2.2) (C := RX2) (T := TX2) (N := 4) hx hb hts iX2 hown hK hP 0 rfl rfl 3 (by decide) (hts (.fieldLink RX2 31 "PascalRows$Reader" "next" "I") (List.mem_of_getElem? (i := 2) rfl)) (fun _ h9 => h9) rfl dX2_faultOfText_33 ?_
          refine lv_aload_n hx hb dX2_faultOfText_36 rfl (lv_at hl 0 rfl) ?_
          refine va_get (D := (dC, dI)) (ci := 1) (v := .int o_length) (C := RX2) (T := TX2) (N := 4) hx hb hts iX2 hown hK hP 0 rfl rfl 2 (by decide) (hts (.fieldLink RX2 24 "PascalRows$Reader" "length" "I") (List.mem_of_getElem? (i := 3) rfl)) (fun _ h9 => h9) rfl dX2_faultOfText_37 ?_
          refine lv_icmp_lt (tgt := 45) hx hb dX2_faultOfText_40 (by decide) (fun c_5 => ?_) (fun c_5 => ?_)
          · have hr := ite_p hr c_5
            refine lv_iload_n hx hb dX2_faultOfText_45 rfl (lv_at hl 1 rfl) ?_
            refine lv_bipush (v := (11 : Int32)) hx hb dX2_faultOfText_46 (by decide) ?_
            refine lv_icmp_eq (tgt := 60) hx hb dX2_faultOfText_48 (by decide) (fun c_6 => ?_) (fun c_6 => ?_)
            · have hr := ite_p hr c_6
              refine lv_aload_n hx hb dX2_faultOfText_60 rfl (lv_at hl 0 rfl) ?_
              refine va_get (D := (dC, dI)) (ci := 1) (v := .int u_3.2.2.2) (C := RX2) (T := TX2) (N := 4) hx hb hts iX2 hown hK hP 0 rfl rfl 3 (by decide) (hts (.fieldLink RX2 31 "PascalRows$Reader" "next" "I") (List.mem_of_getElem? (i := 2) rfl)) (fun _ h9 => h9) rfl dX2_faultOfText_61 ?_
              obtain rfl := Option.some.inj hr
              exact hret H locs _ hP hS (fun Qc free hq hf => W.iret hx hb hrt hq hf dX2_faultOfText_64 hlocks)
            · have hr := ite_n hr c_6
              refine lv_aload_n hx hb dX2_faultOfText_51 rfl (lv_at hl 0 rfl) ?_
              refine lv_bipush (v := (59 : Int32)) hx hb dX2_faultOfText_52 (by decide) ?_
              obtain ⟨u_7, hu_7, hr⟩ := bd_e hr
              refine mu_V ⟨hx, hb, hml, hown, hts⟩ (k_X2_take l dC dI cI cJ a_o a_o_text a_o_clauses (59 : Int32) o_length u_3.2.2.2 o_text H.size u_7 hu_7) (cwV 1 hts gX2_faultOfText_X2_take rfl rfl rfl (by decide +kernel) ⟨Nat.le_of_ble_eq_true rfl, Nat.le_of_ble_eq_true rfl⟩) hE 0 rfl rfl rfl rfl hl.1 rfl (Nat.le_of_ble_eq_true rfl) dX2_faultOfText_54 ⟨Nat.zero_le _, Nat.zero_le _⟩ hP (hD.fst rfl) hS hA [0, 1] [2, 3] [2, 3, 0, 1] rfl rfl (by decide) (by decide) rfl (by decide) (W1 := [(a_o, .inr (1, [.ref a_o_text, .ref a_o_clauses, .int o_length, .int u_7.2])), (a_o_text, .inl (cI, 100, .inl o_text)), (a_o_clauses, .inr (0, [.ref a_o_clauses_numbers, .int u_3.2.2.1])), (a_o_clauses_numbers, .inl (cI, 36, .inl u_3.2.1))]) rfl (fun H locs hP hS => W.eq (g2 := F0 m 57 ls [.int u_7.1]) rfl ?_)
              refine lv_if_ne (tgt := 65) hx hb dX2_faultOfText_57 (by decide) (fun c_8 => ?_) (fun c_8 => ?_)
              · have hr := ite_n hr c_8
                refine lv_iinc (v := (v1_14 + (1 : Int32))) (lv' := [(1, .int (v1_14 + (1 : Int32))), (0, .ref a_o)]) hx hb dX2_faultOfText_65 hl (k := 1) rfl (congrArg (fun z => v1_14 + z) (by decide)) (by decide) rfl (fun ls hl => ?_)
                refine lv_goto (tgt := 14) hx hb dX2_faultOfText_68 (by decide) ?_
                exact ih (v1_14 + (1 : Int32)) u_3.2.1 u_3.2.2.1 u_7.2 ls (lv_sub hl [1, 0] rfl) H locs hP hS hr
              · have hr := ite_p hr c_8
                refine lv_aload_n hx hb dX2_faultOfText_60 rfl (lv_at hl 0 rfl) ?_
                refine va_get (D := (dC, dI)) (ci := 1) (v := .int u_7.2) (C := RX2) (T := TX2) (N := 4) hx hb hts iX2 hown hK hP 0 rfl rfl 3 (by decide) (hts (.fieldLink RX2 31 "PascalRows$Reader" "next" "I") (List.mem_of_getElem? (i := 2) rfl)) (fun _ h9 => h9) rfl dX2_faultOfText_61 ?_
                obtain rfl := Option.some.inj hr
                exact hret H locs _ hP hS (fun Qc free hq hf => W.iret hx hb hrt hq hf dX2_faultOfText_64 hlocks)
          · have hr := ite_n hr c_5
            refine lv_iconst (v := (-1 : Int32)) hx hb dX2_faultOfText_43 (by decide) ?_
            obtain rfl := Option.some.inj hr
            exact hret H locs _ hP hS (fun Qc free hq hf => W.iret hx hb hrt hq hf dX2_faultOfText_44 hlocks)
        · have hr := ite_p hr c_4
          refine lv_aload_n hx hb dX2_faultOfText_27 rfl (lv_at hl 0 rfl) ?_
          refine va_get (D := (dC, dI)) (ci := 1) (v := .int u_3.2.2.2) (C := RX2) (T := TX2) (N := 4) hx hb hts iX2 hown hK hP 0 rfl rfl 3 (by decide) (hts (.fieldLink RX2 31 "PascalRows$Reader" "next" "I") (List.mem_of_getElem? (i := 2) rfl)) (fun _ h9 => h9) rfl dX2_faultOfText_28 ?_
          obtain rfl := Option.some.inj hr
          exact hret H locs _ hP hS (fun Qc free hq hf => W.iret hx hb hrt hq hf dX2_faultOfText_31 hlocks)
  refine hL14  _ (fun xc_o_clauses_numbers_14 xc_o_clauses_size_14 xc_o_next_14 ls hl H locs hP hS hr => ?_) 5000 (0 : Int32) o_clauses_numbers u_1 (0 : Int32) ls (lv_sub hl [1, 0] rfl) H locs hP hS hr
  refine lv_aload_n hx hb dX2_faultOfText_71 rfl (lv_at hl 0 rfl) ?_
  refine va_get (D := (dC, dI)) (ci := 1) (v := .int xc_o_next_14) (C := RX2) (T := TX2) (N := 4) hx hb hts iX2 hown hK hP 0 rfl rfl 3 (by decide) (hts (.fieldLink RX2 31 "PascalRows$Reader" "next" "I") (List.mem_of_getElem? (i := 2) rfl)) (fun _ h9 => h9) rfl dX2_faultOfText_72 ?_
  obtain rfl := Option.some.inj hr
  exact hret H locs _ hP hS (fun Qc free hq hf => W.iret hx hb hrt hq hf dX2_faultOfText_75 hlocks)
