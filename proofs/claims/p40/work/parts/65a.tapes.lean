/-! X4_isThere -/
theorem fz_X4_isThere (p0 : Int32) : f_X4_isThere p0 = 0 ∨ f_X4_isThere p0 = 1 := fz_X6_isWithin _ _ _
def rmX4_isThere : Room := { frames := 1, cells := 0, slots := 0, locals := 22 }
set_option maxHeartbeats 4000000 in
set_option maxRecDepth 100000 in
theorem k_X4_isThere (l : Launch) (dC : Nat → ClassId) (dI : Nat → Nat → Nat) (cI cJ : ClassId) (p0 : Int32) : Met l yX4_isThere wsX4_isThere rmX4_isThere (va_Pc [.int p0] (pE (dC, dI) cI cJ [])) (rq (.int (f_X4_isThere p0))) 0 0 nofree := by
  refine ro_of_z (cc := cX4_isThere) (maxL := 1) (by decide) rfl (Nat.le_of_ble_eq_true rfl) ?_
  intro p e s m args below meth c Q ls hx hb hml hown hts hE hP hret hl
  have hK := hE.1
  have hl : lv_has ls 1 [(0, .int p0)] := hl
  refine lv_iload_n hx hb dX4_isThere_0 rfl (lv_at hl 0 rfl) ?_
  refine lv_iconst (v := (0 : Int32)) hx hb dX4_isThere_1 (by decide) ?_
  refine lv_iconst (v := (5 : Int32)) hx hb dX4_isThere_2 (by decide) ?_
  refine ro_SN ⟨hx, hb, hml, hown, hts⟩ (k_X6_isWithin l dC dI cI cJ p0 (0 : Int32) (5 : Int32)) ⟨va_cnB 3 hts gX4_isThere_X6_isWithin_n20 rfl rfl rfl (hE.nw 18 rfl) (hts (.initialized RX6) (List.mem_of_getElem? (i := 2) rfl)) (by decide +kernel) ⟨Nat.le_of_ble_eq_true rfl, Nat.le_of_ble_eq_true rfl⟩, (hts (.static yX6_isWithin) (List.mem_of_getElem? (i := 1) rfl)), trivial⟩ hE (hP.sub [] rfl) rfl hl.1 rfl (Nat.le_of_ble_eq_true rfl) dX4_isThere_3 ⟨Nat.zero_le _, Nat.zero_le _⟩ ?_
  exact hret 6 ls _ dX4_isThere_6 (fz_X6_isWithin _ _ _) rfl
/-! X4_sortOf -/
def rmX4_sortOf : Room := { frames := 0, cells := 0, slots := 0, locals := 0 }
set_option maxHeartbeats 4000000 in
set_option maxRecDepth 100000 in
theorem k_X4_sortOf (l : Launch) (dC : Nat → ClassId) (dI : Nat → Nat → Nat) (cI cJ : ClassId) (a_o : Nat) (a_o_sorts : Nat) (a_o_lengths : Nat) (a_o_items : Nat) (p0 : Int32) (o_sorts : Nat → Int32) (r : Int32) (hr : f_X4_sortOf p0 o_sorts = some r) : Met l yX4_sortOf wsX4_sortOf rmX4_sortOf (va_Pc [.ref a_o, .int p0] (pE (dC, dI) cI cJ [(a_o, .inr (3, [.ref a_o_sorts, .ref a_o_lengths, .ref a_o_items])), (a_o_sorts, .inl (cI, 6, .inl o_sorts))])) (rq (.int r)) 0 0 nofree := by
  refine ro_of_i (cc := cX4_sortOf) (maxL := 2) (by decide) rfl (Nat.le_of_ble_eq_true rfl) ?_
  intro p e s m args below meth c Q ls hx hb hml hown hts hE hP hret hl
  have hK := hE.1
  have hl : lv_has ls 2 [(0, .ref a_o), (1, .int p0)] := hl
  unfold f_X4_sortOf at hr
  have iX4 : ∀ w ∈ wsX40, w ∈ wsX4_sortOf := memr_ (big := wsX4_sortOf) wsX40 [2, 3, 4] (by decide +kernel)
  refine lv_iload_n hx hb dX4_sortOf_0 rfl (lv_at hl 1 rfl) ?_
  have tT_2 : ((¬ (p0 < 0)) ∧ (¬ ((Int32.ofNat 6) ≤ p0))) → W p l e rmX4_sortOf s m args below meth c s.heap [] 0 0 Q (F0 m 13 ls []) := by
    intro hc_1
    have hr := ite_p hr hc_1
    refine lv_aload_n hx hb dX4_sortOf_13 rfl (lv_at hl 0 rfl) ?_
    refine va_get (D := (dC, dI)) (ci := 3) (v := .ref a_o_sorts) (C := RX4) (T := TX4) (N := 3) hx hb hts iX4 hown hK hP 0 rfl rfl 0 (by decide) (hts (.fieldLink RX4 9 "PascalRows$Tapes" "sorts" "[I") (List.mem_of_getElem? (i := 1) rfl)) (fun _ h9 => h9) rfl dX4_sortOf_14 ?_
    refine lv_iload_n hx hb dX4_sortOf_17 rfl (lv_at hl 1 rfl) ?_
    obtain ⟨g_3, eg_3, hg_3, hr⟩ := rd_e hr
    refine va_iald hx hb hK hP 1 0 rfl rfl hg_3 dX4_sortOf_18 ?_
    refine tp_ eg_3 ?_
    refine lv_goto (tgt := 23) hx hb dX4_sortOf_19 (by decide) ?_
    exact hret 23 ls _ dX4_sortOf_23 (Option.some.inj hr)
  have tF_4 : ¬ ((¬ (p0 < 0)) ∧ (¬ ((Int32.ofNat 6) ≤ p0))) → W p l e rmX4_sortOf s m args below meth c s.heap [] 0 0 Q (F0 m 22 ls []) := by
    intro hc_1
    have hr := ite_n hr hc_1
    refine lv_iconst (v := (-1 : Int32)) hx hb dX4_sortOf_22 (by decide) ?_
    exact hret 23 ls _ dX4_sortOf_23 (Option.some.inj hr)
  refine lv_if_lt (tgt := 22) hx hb dX4_sortOf_1 (by decide) (fun c_5 => ?_) (fun c_5 => ?_)
  · exact tF_4 (fun h => (fun h => h c_5) h.1)
  · refine lv_iload_n hx hb dX4_sortOf_4 rfl (lv_at hl 1 rfl) ?_
    refine lv_aload_n hx hb dX4_sortOf_5 rfl (lv_at hl 0 rfl) ?_
    refine va_get (D := (dC, dI)) (ci := 3) (v := .ref a_o_sorts) (C := RX4) (T := TX4) (N := 3) hx hb hts iX4 hown hK hP 0 rfl rfl 0 (by decide) (hts (.fieldLink RX4 9 "PascalRows$Tapes" "sorts" "[I") (List.mem_of_getElem? (i := 1) rfl)) (fun _ h9 => h9) rfl dX4_sortOf_6 ?_
    refine va_alen (v := (Int32.ofNat 6)) hx hb hK hP 1 0 rfl rfl rfl dX4_sortOf_9 ?_
    refine lv_icmp_ge (tgt := 22) hx hb dX4_sortOf_10 (by decide) (fun c_6 => ?_) (fun c_6 => ?_)
    · exact tF_4 (fun h => (fun h => h c_6) h.2)
    · exact tT_2 ⟨c_5, c_6⟩
/-! X4_lengthOf -/
def rmX4_lengthOf : Room := { frames := 0, cells := 0, slots := 0, locals := 0 }
set_option maxHeartbeats 4000000 in
set_option maxRecDepth 100000 in
theorem k_X4_lengthOf (l : Launch) (dC : Nat → ClassId) (dI : Nat → Nat → Nat) (cI cJ : ClassId) (a_o : Nat) (a_o_sorts : Nat) (a_o_lengths : Nat) (a_o_items : Nat) (p0 : Int32) (o_lengths : Nat → Int32) (r : Int32) (hr : f_X4_lengthOf p0 o_lengths = some r) : Met l yX4_lengthOf wsX4_lengthOf rmX4_lengthOf (va_Pc [.ref a_o, .int p0] (pE (dC, dI) cI cJ [(a_o, .inr (3, [.ref a_o_sorts, .ref a_o_lengths, .ref a_o_items])), (a_o_lengths, .inl (cI, 6, .inl o_lengths))])) (rq (.int r)) 0 0 nofree := by
  refine ro_of_i (cc := cX4_lengthOf) (maxL := 2) (by decide) rfl (Nat.le_of_ble_eq_true rfl) ?_
  intro p e s m args below meth c Q ls hx hb hml hown hts hE hP hret hl
  have hK := hE.1
  have hl : lv_has ls 2 [(0, .ref a_o), (1, .int p0)] := hl
  unfold f_X4_lengthOf at hr
  have iX4 : ∀ w ∈ wsX40, w ∈ wsX4_lengthOf := memr_ (big := wsX4_lengthOf) wsX40 [2, 3, 4] (by decide +kernel)
  refine lv_iload_n hx hb dX4_lengthOf_0 rfl (lv_at hl 1 rfl) ?_
  have tT_2 : ((¬ (p0 < 0)) ∧ (¬ ((Int32.ofNat 6) ≤ p0))) → W p l e rmX4_lengthOf s m args below meth c s.heap [] 0 0 Q (F0 m 13 ls []) := by
    intro hc_1
    have hr := ite_p hr hc_1
    refine lv_aload_n hx hb dX4_lengthOf_13 rfl (lv_at hl 0 rfl) ?_
    refine va_get (D := (dC, dI)) (ci := 3) (v := .ref a_o_lengths) (C := RX4) (T := TX4) (N := 3) hx hb hts iX4 hown hK hP 0 rfl rfl 1 (by decide) (hts (.fieldLink RX4 13 "PascalRows$Tapes" "lengths" "[I") (List.mem_of_getElem? (i := 1) rfl)) (fun _ h9 => h9) rfl dX4_lengthOf_14 ?_
    refine lv_iload_n hx hb dX4_lengthOf_17 rfl (lv_at hl 1 rfl) ?_
    obtain ⟨g_3, eg_3, hg_3, hr⟩ := rd_e hr
    refine va_iald hx hb hK hP 1 0 rfl rfl hg_3 dX4_lengthOf_18 ?_
    refine tp_ eg_3 ?_
    refine lv_goto (tgt := 23) hx hb dX4_lengthOf_19 (by decide) ?_
    exact hret 23 ls _ dX4_lengthOf_23 (Option.some.inj hr)
  have tF_4 : ¬ ((¬ (p0 < 0)) ∧ (¬ ((Int32.ofNat 6) ≤ p0))) → W p l e rmX4_lengthOf s m args below meth c s.heap [] 0 0 Q (F0 m 22 ls []) := by
    intro hc_1
    have hr := ite_n hr hc_1
    refine lv_iconst (v := (0 : Int32)) hx hb dX4_lengthOf_22 (by decide) ?_
    exact hret 23 ls _ dX4_lengthOf_23 (Option.some.inj hr)
  refine lv_if_lt (tgt := 22) hx hb dX4_lengthOf_1 (by decide) (fun c_5 => ?_) (fun c_5 => ?_)
  · exact tF_4 (fun h => (fun h => h c_5) h.1)
  · refine lv_iload_n hx hb dX4_lengthOf_4 rfl (lv_at hl 1 rfl) ?_
    refine lv_aload_n hx hb dX4_lengthOf_5 rfl (lv_at hl 0 rfl) ?_
    refine va_get (D := (dC, dI)) (ci := 3) (v := .ref a_o_lengths) (C := RX4) (T := TX4) (N := 3) hx hb hts iX4 hown hK hP 0 rfl rfl 1 (by decide) (hts (.fieldLink RX4 13 "PascalRows$Tapes" "lengths" "[I") (List.mem_of_getElem? (i := 1) rfl)) (fun _ h9 => h9) rfl dX4_lengthOf_6 ?_
    refine va_alen (v := (Int32.ofNat 6)) hx hb hK hP 1 0 rfl rfl rfl dX4_lengthOf_9 ?_
    refine lv_icmp_ge (tgt := 22) hx hb dX4_lengthOf_10 (by decide) (fun c_6 => ?_) (fun c_6 => ?_)
    · exact tF_4 (fun h => (fun h => h c_6) h.2)
    · exact tT_2 ⟨c_5, c_6⟩
/-! X4_hasRun -/
def rmX4_hasRun : Room := { frames := 1, cells := 0, slots := 0, locals := 21 }
set_option maxHeartbeats 4000000 in
set_option maxRecDepth 100000 in
theorem k_X4_hasRun (l : Launch) (dC : Nat → ClassId) (dI : Nat → Nat → Nat) (cI cJ : ClassId) (a_o : Nat) (a_o_sorts : Nat) (a_o_lengths : Nat) (a_o_items : Nat) (p0 : Int32) (p1 : Int32) (p2 : Int32) (o_lengths : Nat → Int32) (r : Int32) (hr : f_X4_hasRun p0 p1 p2 o_lengths = some r) : Met l yX4_hasRun wsX4_hasRun rmX4_hasRun (va_Pc [.ref a_o, .int p0, .int p1, .int p2] (pE (dC, dI) cI cJ [(a_o, .inr (3, [.ref a_o_sorts, .ref a_o_lengths, .ref a_o_items])), (a_o_lengths, .inl (cI, 6, .inl o_lengths))])) (rq (.int r)) 0 0 nofree := by
  refine ro_of_z (cc := cX4_hasRun) (maxL := 4) (by decide) rfl (Nat.le_of_ble_eq_true rfl) ?_
  intro p e s m args below meth c Q ls hx hb hml hown hts hE hP hret hl
  have hK := hE.1
  have hl : lv_has ls 4 [(0, .ref a_o), (1, .int p0), (2, .int p1), (3, .int p2)] := hl
  unfold f_X4_hasRun at hr
  have iX4 : ∀ w ∈ wsX40, w ∈ wsX4_hasRun := memr_ (big := wsX4_hasRun) wsX40 [7, 8, 9] (by decide +kernel)
  refine lv_iload_n hx hb dX4_hasRun_0 rfl (lv_at hl 3 rfl) ?_
  have tT_2 : ((¬ (p2 < 0)) ∧ (¬ (p1 < 0))) → W p l e rmX4_hasRun s m args below meth c s.heap [] 0 0 Q (F0 m 8 ls []) := by
    intro hc_1
    have hr := ite_p hr hc_1
    refine lv_iload_n hx hb dX4_hasRun_8 rfl (lv_at hl 2 rfl) ?_
    refine lv_aload_n hx hb dX4_hasRun_9 rfl (lv_at hl 0 rfl) ?_
    refine lv_iload_n hx hb dX4_hasRun_10 rfl (lv_at hl 1 rfl) ?_
    obtain ⟨u_3, hu_3, hr⟩ := bd_e hr
    refine ro_V ⟨hx, hb, hml, hown, hts⟩ (k_X4_lengthOf l dC dI cI cJ a_o a_o_sorts a_o_lengths a_o_items p0 o_lengths u_3 hu_3) (cwV 1 hts gX4_hasRun_X4_lengthOf rfl rfl rfl (by decide +kernel) ⟨Nat.le_of_ble_eq_true rfl, Nat.le_of_ble_eq_true rfl⟩) hE hP 0 rfl rfl rfl (hP.sub [0, 1] rfl) rfl hl.1 rfl (Nat.le_of_ble_eq_true rfl) dX4_hasRun_11 ⟨Nat.zero_le _, Nat.zero_le _⟩ ?_
    refine lv_iload_n hx hb dX4_hasRun_14 rfl (lv_at hl 3 rfl) ?_
    refine lv_isub hx hb dX4_hasRun_15 ?_
    have hJ_4 : ∀ (y_5 : Int32) (ey_5 : y_5 = (if (¬ ((u_3 - p2) < p1)) then (1 : Int32) else (0 : Int32))) (ls : Array Slot), lv_has ls 4 [] → W p l e rmX4_hasRun s m args below meth c s.heap [] 0 0 Q (F0 m 24 ls [.int y_5]) := by
      intro y_5 ey_5 ls hl
      subst ey_5
      exact hret 24 ls _ dX4_hasRun_24 (nb_lit _) (Option.some.inj hr)
    refine lv_icmp_gt (tgt := 23) hx hb dX4_hasRun_16 (by decide) (fun c_6 => ?_) (fun c_6 => ?_)
    · refine lv_iconst (v := (0 : Int32)) hx hb dX4_hasRun_23 (by decide) ?_
      exact hJ_4 _ (if_neg (fun h => h c_6)).symm ls (lv_sub hl [] rfl)
    · refine lv_iconst (v := (1 : Int32)) hx hb dX4_hasRun_19 (by decide) ?_
      refine lv_goto (tgt := 24) hx hb dX4_hasRun_20 (by decide) ?_
      exact hJ_4 _ (if_pos c_6).symm ls (lv_sub hl [] rfl)
  have tF_7 : ¬ ((¬ (p2 < 0)) ∧ (¬ (p1 < 0))) → W p l e rmX4_hasRun s m args below meth c s.heap [] 0 0 Q (F0 m 23 ls []) := by
    intro hc_1
    have hr := ite_n hr hc_1
    refine lv_iconst (v := (0 : Int32)) hx hb dX4_hasRun_23 (by decide) ?_
    exact hret 24 ls _ dX4_hasRun_24 (Or.inl rfl) (Option.some.inj hr)
  refine lv_if_lt (tgt := 23) hx hb dX4_hasRun_1 (by decide) (fun c_8 => ?_) (fun c_8 => ?_)
  · exact tF_7 (fun h => (fun h => h c_8) h.1)
  · refine lv_iload_n hx hb dX4_hasRun_4 rfl (lv_at hl 2 rfl) ?_
    refine lv_if_lt (tgt := 23) hx hb dX4_hasRun_5 (by decide) (fun c_9 => ?_) (fun c_9 => ?_)
    · exact tF_7 (fun h => (fun h => h c_9) h.2)
    · exact tT_2 ⟨c_8, c_9⟩
/-! X4_cutToSort -/
def rmX4_cutToSort : Room := { frames := 0, cells := 0, slots := 0, locals := 0 }
set_option maxHeartbeats 4000000 in
set_option maxRecDepth 100000 in
theorem k_X4_cutToSort (l : Launch) (dC : Nat → ClassId) (dI : Nat → Nat → Nat) (cI cJ : ClassId) (p0 : Int32) (p1 : Int64) (r : Int64) (hr : f_X4_cutToSort p0 p1 = some r) : Met l yX4_cutToSort wsX4_cutToSort rmX4_cutToSort (va_Pc [.int p0, .long p1] (pE (dC, dI) cI cJ [])) (rq (.long r)) 0 0 nofree := by
  refine ro_of_l (cc := cX4_cutToSort) (maxL := 3) (by decide) rfl (Nat.le_of_ble_eq_true rfl) ?_
  intro p e s m args below meth c Q ls hx hb hml hown hts hE hP hret hl
  have hK := hE.1
  have hl : lv_has ls 3 [(0, .int p0), (1, .long p1)] := hl
  unfold f_X4_cutToSort at hr
  refine lv_iload_n hx hb dX4_cutToSort_0 rfl (lv_at hl 0 rfl) ?_
  by_cases c_1 : p0 = (0 : Int32)
  · have hr := ite_p hr c_1
    refine W.eq (g2 := F0 m 1 ls (.int (0 : Int32) :: [])) (congrArg (fun z => F0 m 1 ls (.int z :: [])) c_1) ?_
    refine lv_tableIn (tgt := 36) hx hb dX4_cutToSort_1 (by decide) (by decide) (by first | rfl | decide) (by decide) ?_
    refine lv_lload_n hx hb dX4_cutToSort_36 rfl (lv_at hl 1 rfl) ?_
    refine lv_l2i (v := (Int64.toInt32 p1)) hx hb dX4_cutToSort_37 rfl ?_
    refine lv_i2b (v := (Int8.toInt32 (Int32.toInt8 (Int64.toInt32 p1)))) hx hb dX4_cutToSort_38 rfl ?_
    refine lv_i2l (v := (Int32.toInt64 (Int8.toInt32 (Int32.toInt8 (Int64.toInt32 p1))))) hx hb dX4_cutToSort_39 rfl ?_
    exact hret 40 ls _ dX4_cutToSort_40 (Option.some.inj hr)
  have hr := ite_n hr c_1
  by_cases c_2 : p0 = (1 : Int32)
  · have hr := ite_p hr c_2
    refine W.eq (g2 := F0 m 1 ls (.int (1 : Int32) :: [])) (congrArg (fun z => F0 m 1 ls (.int z :: [])) c_2) ?_
    refine lv_tableIn (tgt := 41) hx hb dX4_cutToSort_1 (by decide) (by decide) (by first | rfl | decide) (by decide) ?_
    refine lv_lload_n hx hb dX4_cutToSort_41 rfl (lv_at hl 1 rfl) ?_
    refine lv_l2i (v := (Int64.toInt32 p1)) hx hb dX4_cutToSort_42 rfl ?_
    refine lv_i2s (v := (Int16.toInt32 (Int32.toInt16 (Int64.toInt32 p1)))) hx hb dX4_cutToSort_43 rfl ?_
    refine lv_i2l (v := (Int32.toInt64 (Int16.toInt32 (Int32.toInt16 (Int64.toInt32 p1))))) hx hb dX4_cutToSort_44 rfl ?_
    exact hret 45 ls _ dX4_cutToSort_45 (Option.some.inj hr)
  have hr := ite_n hr c_2
  by_cases c_3 : p0 = (2 : Int32)
  · have hr := ite_p hr c_3
    refine W.eq (g2 := F0 m 1 ls (.int (2 : Int32) :: [])) (congrArg (fun z => F0 m 1 ls (.int z :: [])) c_3) ?_
    refine lv_tableIn (tgt := 46) hx hb dX4_cutToSort_1 (by decide) (by decide) (by first | rfl | decide) (by decide) ?_
    refine lv_lload_n hx hb dX4_cutToSort_46 rfl (lv_at hl 1 rfl) ?_
    refine lv_l2i (v := (Int64.toInt32 p1)) hx hb dX4_cutToSort_47 rfl ?_
    refine lv_i2l (v := (Int32.toInt64 (Int64.toInt32 p1))) hx hb dX4_cutToSort_48 rfl ?_
    exact hret 49 ls _ dX4_cutToSort_49 (Option.some.inj hr)
  have hr := ite_n hr c_3
  by_cases c_4 : p0 = (3 : Int32)
  · have hr := ite_p hr c_4
    refine W.eq (g2 := F0 m 1 ls (.int (3 : Int32) :: [])) (congrArg (fun z => F0 m 1 ls (.int z :: [])) c_4) ?_
    refine lv_tableIn (tgt := 62) hx hb dX4_cutToSort_1 (by decide) (by decide) (by first | rfl | decide) (by decide) ?_
    refine lv_lload_n hx hb dX4_cutToSort_62 rfl (lv_at hl 1 rfl) ?_
    exact hret 63 ls _ dX4_cutToSort_63 (Option.some.inj hr)
  have hr := ite_n hr c_4
  by_cases c_5 : p0 = (4 : Int32)
  · have hr := ite_p hr c_5
    refine W.eq (g2 := F0 m 1 ls (.int (4 : Int32) :: [])) (congrArg (fun z => F0 m 1 ls (.int z :: [])) c_5) ?_
    refine lv_tableIn (tgt := 50) hx hb dX4_cutToSort_1 (by decide) (by decide) (by first | rfl | decide) (by decide) ?_
    refine lv_lload_n hx hb dX4_cutToSort_50 rfl (lv_at hl 1 rfl) ?_
    refine lv_lconst (v := (0 : Int64)) hx hb dX4_cutToSort_51 (by decide) ?_
    refine W.lcmp hx hb dX4_cutToSort_52 ?_
    have hJ_6 : ∀ (y_7 : Int64) (ey_7 : y_7 = (if ((lg_cmp p1 (0 : Int64)) = 0) then (0 : Int64) else (1 : Int64))) (ls : Array Slot), lv_has ls 3 [] → W p l e rmX4_cutToSort s m args below meth c s.heap [] 0 0 Q (F0 m 61 ls [.long y_7]) := by
      intro y_7 ey_7 ls hl
      subst ey_7
      exact hret 61 ls _ dX4_cutToSort_61 (Option.some.inj hr)
    refine lv_if_eq (tgt := 60) hx hb dX4_cutToSort_53 (by decide) (fun c_8 => ?_) (fun c_8 => ?_)
    · refine lv_lconst (v := (0 : Int64)) hx hb dX4_cutToSort_60 (by decide) ?_
      exact hJ_6 _ (if_pos c_8).symm ls (lv_sub hl [] rfl)
    · refine lv_lconst (v := (1 : Int64)) hx hb dX4_cutToSort_56 (by decide) ?_
      refine lv_goto (tgt := 61) hx hb dX4_cutToSort_57 (by decide) ?_
      exact hJ_6 _ (if_neg c_8).symm ls (lv_sub hl [] rfl)
  have hr := ite_n hr c_5
  refine lv_tableOut (tgt := 62) hx hb dX4_cutToSort_1 (tbl_out (fun k h1 h2 => ?_)) (by decide) ?_
  · rcases (show k = 0 ∨ k = 1 ∨ k = 2 ∨ k = 3 ∨ k = 4 by omega) with rfl | rfl | rfl | rfl | rfl
    · exact i32_ne c_1 rfl
    · exact i32_ne c_2 rfl
    · exact i32_ne c_3 rfl
    · exact i32_ne c_4 rfl
    · exact i32_ne c_5 rfl
  refine lv_lload_n hx hb dX4_cutToSort_62 rfl (lv_at hl 1 rfl) ?_
  exact hret 63 ls _ dX4_cutToSort_63 (Option.some.inj hr)
/-! X4_put -/
def rmX4_put : Room := { frames := 2, cells := 0, slots := 0, locals := 44 }
set_option maxHeartbeats 4000000 in
set_option maxRecDepth 100000 in
theorem k_X4_put (l : Launch) (dC : Nat → ClassId) (dI : Nat → Nat → Nat) (cI cJ : ClassId) (a_o : Nat) (a_o_sorts : Nat) (a_o_lengths : Nat) (a_o_items : Nat) (p0 : Int32) (p1 : Int32) (p2 : Int64) (o_sorts : Nat → Int32) (o_lengths : Nat → Int32) (o_items : Nat → Int64) (sz : Nat) (r : (Nat → Int64)) (hr : f_X4_put p0 p1 p2 o_sorts o_lengths o_items = some r) : Met l yX4_put wsX4_put rmX4_put (va_Pc [.ref a_o, .int p0, .int p1, .long p2] (pM (dC, dI) cI cJ [(a_o, .inr (3, [.ref a_o_sorts, .ref a_o_lengths, .ref a_o_items])), (a_o_sorts, .inl (cI, 6, .inl o_sorts)), (a_o_lengths, .inl (cI, 6, .inl o_lengths)), (a_o_items, .inl (cJ, 360, .inr (.inl o_items)))] sz)) (qM none (dC, dI) [(a_o, .inr (3, [.ref a_o_sorts, .ref a_o_lengths, .ref a_o_items])), (a_o_sorts, .inl (cI, 6, .inl o_sorts)), (a_o_lengths, .inl (cI, 6, .inl o_lengths)), (a_o_items, .inl (cJ, 360, .inr (.inl r)))] (va_A [(a_o, .inr (3, [.ref a_o_sorts, .ref a_o_lengths, .ref a_o_items])), (a_o_sorts, .inl (cI, 6, .inl o_sorts)), (a_o_lengths, .inl (cI, 6, .inl o_lengths)), (a_o_items, .inl (cJ, 360, .inr (.inl o_items)))] sz)) 0 0 (va_A [(a_o, .inr (3, [.ref a_o_sorts, .ref a_o_lengths, .ref a_o_items])), (a_o_sorts, .inl (cI, 6, .inl o_sorts)), (a_o_lengths, .inl (cI, 6, .inl o_lengths)), (a_o_items, .inl (cJ, 360, .inr (.inl o_items)))] sz) := by
  refine mu_of (cc := cX4_put) (maxL := 6) (by decide) rfl (Nat.le_of_ble_eq_true rfl) ?_
  intro p e s m args below meth c Q ls A hx hb hml hown hts hE hP hD hA hrt hlocks hret hl
  have hK := hE.1
  have hS : va_S A s.heap s.heap [] := va_S.rf
  have hl : lv_has ls 6 [(0, .ref a_o), (1, .int p0), (2, .int p1), (3, .long p2)] := hl
  unfold f_X4_put at hr
  obtain ⟨H, hHe⟩ : ∃ H, H = s.heap := ⟨_, rfl⟩
  obtain ⟨locs, hLe⟩ : ∃ locs : List Loc, locs = [] := ⟨_, rfl⟩
  suffices hgo : va_P (dC, dI) vwCl [(a_o, .inr (3, [.ref a_o_sorts, .ref a_o_lengths, .ref a_o_items])), (a_o_sorts, .inl (cI, 6, .inl o_sorts)), (a_o_lengths, .inl (cI, 6, .inl o_lengths)), (a_o_items, .inl (cJ, 360, .inr (.inl o_items)))] H → va_S A s.heap H locs → W p l e rmX4_put s m args below meth c H locs 0 0 Q (F0 m 0 ls []) by
    subst hHe; subst hLe; exact hgo hP hS
  clear hP hS hHe hLe
  intro hP hS
  have iX4 : ∀ w ∈ wsX40, w ∈ wsX4_put := memr_ (big := wsX4_put) wsX40 [20, 21, 22] (by decide +kernel)
  refine lv_bipush (v := (60 : Int32)) hx hb dX4_put_0 (by decide) ?_
  refine lv_iload_n hx hb dX4_put_2 rfl (lv_at hl 1 rfl) ?_
  refine lv_imul hx hb dX4_put_3 ?_
  refine lv_iload_n hx hb dX4_put_4 rfl (lv_at hl 2 rfl) ?_
  refine lv_iadd hx hb dX4_put_5 ?_
  refine lv_istore (lv' := [(5, .int (((60 : Int32) * p0) + p1)), (0, .ref a_o), (1, .int p0), (2, .int p1), (3, .long p2)]) hx hb dX4_put_6 hl (by decide) rfl (fun ls hl => ?_)
  refine lv_aload_n hx hb dX4_put_8 rfl (lv_at hl 1 rfl) ?_
  refine lv_iload_n hx hb dX4_put_9 rfl (lv_at hl 2 rfl) ?_
  refine lv_iload_n hx hb dX4_put_10 rfl (lv_at hl 3 rfl) ?_
  refine lv_iconst (v := (1 : Int32)) hx hb dX4_put_11 (by decide) ?_
  obtain ⟨u_1, hu_1, hr⟩ := bd_e hr
  refine ro_V ⟨hx, hb, hml, hown, hts⟩ (k_X4_hasRun l dC dI cI cJ a_o a_o_sorts a_o_lengths a_o_items p0 p1 (1 : Int32) o_lengths u_1 hu_1) (cwV 3 hts gX4_put_X4_hasRun rfl rfl rfl (by decide +kernel) ⟨Nat.le_of_ble_eq_true rfl, Nat.le_of_ble_eq_true rfl⟩) hE hP 0 rfl rfl rfl (hP.sub [0, 2] rfl) rfl hl.1 rfl (Nat.le_of_ble_eq_true rfl) dX4_put_12 ⟨Nat.zero_le _, Nat.zero_le _⟩ ?_
  have tT_3 : ((¬ (u_1 = 0)) ∧ ((¬ ((((60 : Int32) * p0) + p1) < 0)) ∧ (¬ ((Int32.ofNat 360) ≤ (((60 : Int32) * p0) + p1))))) → W p l e rmX4_put s m args below meth c H locs 0 0 Q (F0 m 33 ls []) := by
    intro hc_2
    have hr := ite_p hr hc_2
    refine lv_aload_n hx hb dX4_put_33 rfl (lv_at hl 1 rfl) ?_
    refine va_get (D := (dC, dI)) (ci := 3) (v := .ref a_o_items) (C := RX4) (T := TX4) (N := 3) hx hb hts iX4 hown hK hP 0 rfl rfl 2 (by decide) (hts (.fieldLink RX4 16 "PascalRows$Tapes" "items" "[J") (List.mem_of_getElem? (i := 1) rfl)) (fun _ h9 => h9) rfl dX4_put_34 ?_
    refine lv_iload hx hb dX4_put_37 (lv_at hl 0 rfl) ?_
    refine lv_aload_n hx hb dX4_put_39 rfl (lv_at hl 1 rfl) ?_
    refine lv_iload_n hx hb dX4_put_40 rfl (lv_at hl 2 rfl) ?_
    obtain ⟨u_4, hu_4, hr⟩ := bd_e hr
    refine ro_V ⟨hx, hb, hml, hown, hts⟩ (k_X4_sortOf l dC dI cI cJ a_o a_o_sorts a_o_lengths a_o_items p0 o_sorts u_4 hu_4) (cwV 1 hts gX4_put_X4_sortOf rfl rfl rfl (by decide +kernel) ⟨Nat.le_of_ble_eq_true rfl, Nat.le_of_ble_eq_true rfl⟩) hE hP 0 rfl rfl rfl (hP.sub [0, 1] rfl) rfl hl.1 rfl (Nat.le_of_ble_eq_true rfl) dX4_put_41 ⟨Nat.zero_le _, Nat.zero_le _⟩ ?_
    refine lv_lload_n hx hb dX4_put_44 rfl (lv_at hl 4 rfl) ?_
    obtain ⟨u_5, hu_5, hr⟩ := bd_e hr
    refine ro_S ⟨hx, hb, hml, hown, hts⟩ (k_X4_cutToSort l dC dI cI cJ u_4 p2 u_5 hu_5) (va_cwS 2 hts gX4_put_X4_cutToSort rfl rfl rfl (by decide +kernel) ⟨Nat.le_of_ble_eq_true rfl, Nat.le_of_ble_eq_true rfl⟩) hE (hP.sub [] rfl) rfl hl.1 rfl (Nat.le_of_ble_eq_true rfl) dX4_put_45 ⟨Nat.zero_le _, Nat.zero_le _⟩ ?_
    obtain ⟨w_6, ew_6, hw_6, hr⟩ := wrL_e hr
    refine va_last hx hb hK hP (hD.fst rfl) hS 3 1 rfl rfl hw_6 dX4_put_48 (fun H locs hP _ hS => ?_)
    rw [← ew_6] at hP
    have hP : va_P (dC, dI) vwCl [(a_o, .inr (3, [.ref a_o_sorts, .ref a_o_lengths, .ref a_o_items])), (a_o_sorts, .inl (cI, 6, .inl o_sorts)), (a_o_lengths, .inl (cI, 6, .inl o_lengths)), (a_o_items, .inl (cJ, 360, .inr (.inl w_6)))] H := hP
    obtain rfl := Option.some.inj hr
    exact hret H locs _ hP hS (fun Qc free hq hf => W.vret hx hb hrt hq hf dX4_put_49 hlocks)
  have tF_7 : ¬ ((¬ (u_1 = 0)) ∧ ((¬ ((((60 : Int32) * p0) + p1) < 0)) ∧ (¬ ((Int32.ofNat 360) ≤ (((60 : Int32) * p0) + p1))))) → W p l e rmX4_put s m args below meth c H locs 0 0 Q (F0 m 49 ls []) := by
    intro hc_2
    have hr := ite_n hr hc_2
    obtain rfl := Option.some.inj hr
    exact hret H locs _ hP hS (fun Qc free hq hf => W.vret hx hb hrt hq hf dX4_put_49 hlocks)
  refine lv_if_eq (tgt := 49) hx hb dX4_put_15 (by decide) (fun c_8 => ?_) (fun c_8 => ?_)
  · exact tF_7 (fun h => (fun h => h c_8) h.1)
  · refine lv_iload hx hb dX4_put_18 (lv_at hl 0 rfl) ?_
    refine lv_if_lt (tgt := 49) hx hb dX4_put_20 (by decide) (fun c_9 => ?_) (fun c_9 => ?_)
    · exact tF_7 (fun h => (fun h => (fun h => h c_9) h.1) h.2)
    · refine lv_iload hx hb dX4_put_23 (lv_at hl 0 rfl) ?_
      refine lv_aload_n hx hb dX4_put_25 rfl (lv_at hl 1 rfl) ?_
      refine va_get (D := (dC, dI)) (ci := 3) (v := .ref a_o_items) (C := RX4) (T := TX4) (N := 3) hx hb hts iX4 hown hK hP 0 rfl rfl 2 (by decide) (hts (.fieldLink RX4 16 "PascalRows$Tapes" "items" "[J") (List.mem_of_getElem? (i := 1) rfl)) (fun _ h9 => h9) rfl dX4_put_26 ?_
      refine va_alen (v := (Int32.ofNat 360)) hx hb hK hP 3 1 rfl rfl rfl dX4_put_29 ?_
      refine lv_icmp_ge (tgt := 49) hx hb dX4_put_30 (by decide) (fun c_10 => ?_) (fun c_10 => ?_)
      · exact tF_7 (fun h => (fun h => (fun h => h c_10) h.2) h.2)
      · exact tT_3 ⟨c_8, ⟨c_9, c_10⟩⟩
/-! X4_become -/
def rmX4_become : Room := { frames := 3, cells := 0, slots := 0, locals := 69 }
set_option maxHeartbeats 4000000 in
set_option maxRecDepth 100000 in
theorem k_X4_become (l : Launch) (dC : Nat → ClassId) (dI : Nat → Nat → Nat) (cI cJ : ClassId) (a_o : Nat) (a_o_sorts : Nat) (a_o_lengths : Nat) (a_o_items : Nat) (p0 : Int32) (p1 : Int32) (p2 : Int32) (o_sorts : Nat → Int32) (o_lengths : Nat → Int32) (o_items : Nat → Int64) (sz : Nat) (r : (Nat → Int32) × (Nat → Int32) × (Nat → Int64)) (hr : f_X4_become p0 p1 p2 o_sorts o_lengths o_items = some r) : Met l yX4_become wsX4_become rmX4_become (va_Pc [.ref a_o, .int p0, .int p1, .int p2] (pM (dC, dI) cI cJ [(a_o, .inr (3, [.ref a_o_sorts, .ref a_o_lengths, .ref a_o_items])), (a_o_sorts, .inl (cI, 6, .inl o_sorts)), (a_o_lengths, .inl (cI, 6, .inl o_lengths)), (a_o_items, .inl (cJ, 360, .inr (.inl o_items)))] sz)) (qM none (dC, dI) [(a_o, .inr (3, [.ref a_o_sorts, .ref a_o_lengths, .ref a_o_items])), (a_o_sorts, .inl (cI, 6, .inl r.1)), (a_o_lengths, .inl (cI, 6, .inl r.2.1)), (a_o_items, .inl (cJ, 360, .inr (.inl r.2.2)))] (va_A [(a_o, .inr (3, [.ref a_o_sorts, .ref a_o_lengths, .ref a_o_items])), (a_o_sorts, .inl (cI, 6, .inl o_sorts)), (a_o_lengths, .inl (cI, 6, .inl o_lengths)), (a_o_items, .inl (cJ, 360, .inr (.inl o_items)))] sz)) 0 0 (va_A [(a_o, .inr (3, [.ref a_o_sorts, .ref a_o_lengths, .ref a_o_items])), (a_o_sorts, .inl (cI, 6, .inl o_sorts)), (a_o_lengths, .inl (cI, 6, .inl o_lengths)), (a_o_items, .inl (cJ, 360, .inr (.inl o_items)))] sz) := by
  refine mu_of (cc := cX4_become) (maxL := 5) (by decide) rfl (Nat.le_of_ble_eq_true rfl) ?_
  intro p e s m args below meth c Q ls A hx hb hml hown hts hE hP hD hA hrt hlocks hret hl
  have hK := hE.1
  have hS : va_S A s.heap s.heap [] := va_S.rf
  have hl : lv_has ls 5 [(0, .ref a_o), (1, .int p0), (2, .int p1), (3, .int p2)] := hl
  unfold f_X4_become at hr
  obtain ⟨H, hHe⟩ : ∃ H, H = s.heap := ⟨_, rfl⟩
  obtain ⟨locs, hLe⟩ : ∃ locs : List Loc, locs = [] := ⟨_, rfl⟩
  suffices hgo : va_P (dC, dI) vwCl [(a_o, .inr (3, [.ref a_o_sorts, .ref a_o_lengths, .ref a_o_items])), (a_o_sorts, .inl (cI, 6, .inl o_sorts)), (a_o_lengths, .inl (cI, 6, .inl o_lengths)), (a_o_items, .inl (cJ, 360, .inr (.inl o_items)))] H → va_S A s.heap H locs → W p l e rmX4_become s m args below meth c H locs 0 0 Q (F0 m 0 ls []) by
    subst hHe; subst hLe; exact hgo hP hS
  clear hP hS hHe hLe
  intro hP hS
  have iX4 : ∀ w ∈ wsX40, w ∈ wsX4_become := memr_ (big := wsX4_become) wsX40 [31, 32, 33] (by decide +kernel)
  refine lv_iload_n hx hb dX4_become_0 rfl (lv_at hl 1 rfl) ?_
  have tT_2 : ((p0 < 0) ∨ (((Int32.ofNat 6) ≤ p0) ∨ (¬ (p0 < (Int32.ofNat 6))))) → W p l e rmX4_become s m args below meth c H locs 0 0 Q (F0 m 22 ls []) := by
    intro hc_1
    have hr := ite_p hr hc_1
    obtain rfl := Option.some.inj hr
    exact hret H locs _ hP hS (fun Qc free hq hf => W.vret hx hb hrt hq hf dX4_become_22 hlocks)
  have tF_3 : ¬ ((p0 < 0) ∨ (((Int32.ofNat 6) ≤ p0) ∨ (¬ (p0 < (Int32.ofNat 6))))) → W p l e rmX4_become s m args below meth c H locs 0 0 Q (F0 m 23 ls []) := by
    intro hc_1
    have hr := ite_n hr hc_1
    refine lv_aload_n hx hb dX4_become_23 rfl (lv_at hl 0 rfl) ?_
    refine va_get (D := (dC, dI)) (ci := 3) (v := .ref a_o_sorts) (C := RX4) (T := TX4) (N := 3) hx hb hts iX4 hown hK hP 0 rfl rfl 0 (by decide) (hts (.fieldLink RX4 9 "PascalRows$Tapes" "sorts" "[I") (List.mem_of_getElem? (i := 1) rfl)) (fun _ h9 => h9) rfl dX4_become_24 ?_
    refine lv_iload_n hx hb dX4_become_27 rfl (lv_at hl 1 rfl) ?_
    refine lv_iload_n hx hb dX4_become_28 rfl (lv_at hl 2 rfl) ?_
    obtain ⟨w_4, ew_4, hw_4, hr⟩ := wr_e hr
    refine va_iast hx hb hK hP (hD.fst rfl) hS 1 0 rfl rfl hw_4 dX4_become_29 (fun H locs hP _ hS => ?_)
    rw [← ew_4] at hP
    have hP : va_P (dC, dI) vwCl [(a_o, .inr (3, [.ref a_o_sorts, .ref a_o_lengths, .ref a_o_items])), (a_o_sorts, .inl (cI, 6, .inl w_4)), (a_o_lengths, .inl (cI, 6, .inl o_lengths)), (a_o_items, .inl (cJ, 360, .inr (.inl o_items)))] H := hP
    refine lv_aload_n hx hb dX4_become_30 rfl (lv_at hl 0 rfl) ?_
    refine va_get (D := (dC, dI)) (ci := 3) (v := .ref a_o_lengths) (C := RX4) (T := TX4) (N := 3) hx hb hts iX4 hown hK hP 0 rfl rfl 1 (by decide) (hts (.fieldLink RX4 13 "PascalRows$Tapes" "lengths" "[I") (List.mem_of_getElem? (i := 2) rfl)) (fun _ h9 => h9) rfl dX4_become_31 ?_
    refine lv_iload_n hx hb dX4_become_34 rfl (lv_at hl 1 rfl) ?_
    refine lv_iconst (v := (0 : Int32)) hx hb dX4_become_35 (by decide) ?_
    refine lv_iload_n hx hb dX4_become_36 rfl (lv_at hl 3 rfl) ?_
    refine lv_bipush (v := (60 : Int32)) hx hb dX4_become_37 (by decide) ?_
    refine va_mmin hx hb (hml.trans hl.1.symm) hown (hts (.methodLink RX4 26 Lib.Math.min.name) (List.mem_of_getElem? (i := 3) rfl)) (hts (.static Lib.Math.min.name) (List.mem_of_getElem? (i := 4) rfl)) (hts (.initialized "java/lang/Math") (List.mem_of_getElem? (i := 5) rfl)) (hts (.code Lib.Math.min.name Lib.Math.min.code 2 (some .int)) (List.mem_of_getElem? (i := 6) rfl)) (Nat.le_of_ble_eq_true rfl) (Nat.le_of_ble_eq_true rfl) (Nat.zero_le _) (Nat.zero_le _) dX4_become_39 ?_
    refine va_mmax hx hb (hml.trans hl.1.symm) hown (hts (.methodLink RX4 32 Lib.Math.max.name) (List.mem_of_getElem? (i := 7) rfl)) (hts (.static Lib.Math.max.name) (List.mem_of_getElem? (i := 8) rfl)) (hts (.initialized "java/lang/Math") (List.mem_of_getElem? (i := 5) rfl)) (hts (.code Lib.Math.max.name Lib.Math.max.code 2 (some .int)) (List.mem_of_getElem? (i := 9) rfl)) (Nat.le_of_ble_eq_true rfl) (Nat.le_of_ble_eq_true rfl) (Nat.zero_le _) (Nat.zero_le _) dX4_become_42 ?_
    obtain ⟨w_5, ew_5, hw_5, hr⟩ := wr_e hr
    refine va_iast hx hb hK hP (hD.fst rfl) hS 2 0 rfl rfl hw_5 dX4_become_45 (fun H locs hP _ hS => ?_)
    rw [← ew_5] at hP
    have hP : va_P (dC, dI) vwCl [(a_o, .inr (3, [.ref a_o_sorts, .ref a_o_lengths, .ref a_o_items])), (a_o_sorts, .inl (cI, 6, .inl w_4)), (a_o_lengths, .inl (cI, 6, .inl w_5)), (a_o_items, .inl (cJ, 360, .inr (.inl o_items)))] H := hP
    refine lv_iconst (v := (0 : Int32)) hx hb dX4_become_46 (by decide) ?_
    refine lv_istore (lv' := [(4, .int (0 : Int32)), (0, .ref a_o), (1, .int p0), (2, .int p1), (3, .int p2)]) hx hb dX4_become_47 hl (by decide) rfl (fun ls hl => ?_)
    have hL49 : ∀ (v1_49 : Int32) (o_sorts_49 : Nat → Int32) (o_lengths_49 : Nat → Int32) (k_49 : (Nat → Int64) → Option ((Nat → Int32) × (Nat → Int32) × (Nat → Int64))) (hk : ∀ (xc_o_items_49 : Nat → Int64) (ls : Array Slot), lv_has ls 5 [] → ∀ (H : Heap) (locs : List Loc), va_P (dC, dI) vwCl [(a_o, .inr (3, [.ref a_o_sorts, .ref a_o_lengths, .ref a_o_items])), (a_o_sorts, .inl (cI, 6, .inl o_sorts_49)), (a_o_lengths, .inl (cI, 6, .inl o_lengths_49)), (a_o_items, .inl (cJ, 360, .inr (.inl xc_o_items_49)))] H → va_S A s.heap H locs →  k_49 xc_o_items_49 = some r → W p l e rmX4_become s m args below meth c H locs 0 0 Q (F0 m 74 ls [])) (fuel : Nat) (v4_49 : Int32) (o_items_49 : Nat → Int64) (ls : Array Slot), lv_has ls 5 [(0, .ref a_o), (1, .int v1_49), (4, .int v4_49)] → ∀ (H : Heap) (locs : List Loc), va_P (dC, dI) vwCl [(a_o, .inr (3, [.ref a_o_sorts, .ref a_o_lengths, .ref a_o_items])), (a_o_sorts, .inl (cI, 6, .inl o_sorts_49)), (a_o_lengths, .inl (cI, 6, .inl o_lengths_49)), (a_o_items, .inl (cJ, 360, .inr (.inl o_items_49)))] H → va_S A s.heap H locs → f_X4_become_L49 k_49 v1_49 o_sorts_49 o_lengths_49 fuel v4_49 o_items_49 = some r → W p l e rmX4_become s m args below meth c H locs 0 0 Q (F0 m 49 ls []) := by
      intro v1_49 o_sorts_49 o_lengths_49 k_49 hk fuel
      induction fuel with
      | zero =>
        intro v4_49 o_items_49 ls hl H locs hP hS hr
        rw [f_X4_become_L49_z] at hr
        cases hr
      | succ fuel ih =>
        intro v4_49 o_items_49 ls hl H locs hP hS hr
        rw [f_X4_become_L49_s] at hr
        refine lv_iload hx hb dX4_become_49 (lv_at hl 2 rfl) ?_
        refine lv_aload_n hx hb dX4_become_51 rfl (lv_at hl 0 rfl) ?_
        refine va_get (D := (dC, dI)) (ci := 3) (v := .ref a_o_lengths) (C := RX4) (T := TX4) (N := 3) hx hb hts iX4 hown hK hP 0 rfl rfl 1 (by decide) (hts (.fieldLink RX4 13 "PascalRows$Tapes" "lengths" "[I") (List.mem_of_getElem? (i := 2) rfl)) (fun _ h9 => h9) rfl dX4_become_52 ?_
        refine lv_iload_n hx hb dX4_become_55 rfl (lv_at hl 1 rfl) ?_
        obtain ⟨g_6, eg_6, hg_6, hr⟩ := rd_e hr
        refine va_iald hx hb hK hP 2 0 rfl rfl hg_6 dX4_become_56 ?_
        refine tp_ eg_6 ?_
        refine lv_icmp_ge (tgt := 74) hx hb dX4_become_57 (by decide) (fun c_7 => ?_) (fun c_7 => ?_)
        · have hr := ite_p hr c_7
          exact hk o_items_49 ls (lv_sub hl [] rfl) H locs hP hS hr
        · have hr := ite_n hr c_7
          refine lv_aload_n hx hb dX4_become_60 rfl (lv_at hl 0 rfl) ?_
          refine lv_iload_n hx hb dX4_become_61 rfl (lv_at hl 1 rfl) ?_
          refine lv_iload hx hb dX4_become_62 (lv_at hl 2 rfl) ?_
          refine lv_lconst (v := (0 : Int64)) hx hb dX4_become_64 (by decide) ?_
          obtain ⟨u_8, hu_8, hr⟩ := bd_e hr
          refine mu_V ⟨hx, hb, hml, hown, hts⟩ (k_X4_put l dC dI cI cJ a_o a_o_sorts a_o_lengths a_o_items v1_49 v4_49 (0 : Int64) o_sorts_49 o_lengths_49 o_items_49 H.size u_8 hu_8) (cwV 3 hts gX4_become_X4_put rfl rfl rfl (by decide +kernel) ⟨Nat.le_of_ble_eq_true rfl, Nat.le_of_ble_eq_true rfl⟩) hE 0 rfl rfl rfl rfl hl.1 rfl (Nat.le_of_ble_eq_true rfl) dX4_become_65 ⟨Nat.zero_le _, Nat.zero_le _⟩ hP (hD.fst rfl) hS hA [0, 1, 2, 3] [] [0, 1, 2, 3] rfl rfl (by decide) (by decide) rfl (by decide) (W1 := [(a_o, .inr (3, [.ref a_o_sorts, .ref a_o_lengths, .ref a_o_items])), (a_o_sorts, .inl (cI, 6, .inl o_sorts_49)), (a_o_lengths, .inl (cI, 6, .inl o_lengths_49)), (a_o_items, .inl (cJ, 360, .inr (.inl u_8)))]) rfl (fun H locs hP hS => W.eq (g2 := F0 m 68 ls []) rfl ?_)
          refine lv_iinc (v := (v4_49 + (1 : Int32))) (lv' := [(4, .int (v4_49 + (1 : Int32))), (0, .ref a_o), (1, .int v1_49)]) hx hb dX4_become_68 hl (k := 2) rfl (congrArg (fun z => v4_49 + z) (by decide)) (by decide) rfl (fun ls hl => ?_)
          refine lv_goto (tgt := 49) hx hb dX4_become_71 (by decide) ?_
          exact ih (v4_49 + (1 : Int32)) u_8 ls (lv_sub hl [1, 2, 0] rfl) H locs hP hS hr
    refine hL49 p0 w_4 w_5 _ (fun xc_o_items_49 ls hl H locs hP hS hr => ?_) 5000 (0 : Int32) o_items ls (lv_sub hl [1, 2, 0] rfl) H locs hP hS hr
    obtain rfl := Option.some.inj hr
    exact hret H locs _ hP hS (fun Qc free hq hf => W.vret hx hb hrt hq hf dX4_become_74 hlocks)
  refine lv_if_lt (tgt := 22) hx hb dX4_become_1 (by decide) (fun c_9 => ?_) (fun c_9 => ?_)
  · exact tT_2 (Or.inl c_9)
  · refine lv_iload_n hx hb dX4_become_4 rfl (lv_at hl 1 rfl) ?_
    refine lv_aload_n hx hb dX4_become_5 rfl (lv_at hl 0 rfl) ?_
    refine va_get (D := (dC, dI)) (ci := 3) (v := .ref a_o_sorts) (C := RX4) (T := TX4) (N := 3) hx hb hts iX4 hown hK hP 0 rfl rfl 0 (by decide) (hts (.fieldLink RX4 9 "PascalRows$Tapes" "sorts" "[I") (List.mem_of_getElem? (i := 1) rfl)) (fun _ h9 => h9) rfl dX4_become_6 ?_
    refine va_alen (v := (Int32.ofNat 6)) hx hb hK hP 1 0 rfl rfl rfl dX4_become_9 ?_
    refine lv_icmp_ge (tgt := 22) hx hb dX4_become_10 (by decide) (fun c_10 => ?_) (fun c_10 => ?_)
    · exact tT_2 (Or.inr (Or.inl c_10))
    · refine lv_iload_n hx hb dX4_become_13 rfl (lv_at hl 1 rfl) ?_
      refine lv_aload_n hx hb dX4_become_14 rfl (lv_at hl 0 rfl) ?_
      refine va_get (D := (dC, dI)) (ci := 3) (v := .ref a_o_lengths) (C := RX4) (T := TX4) (N := 3) hx hb hts iX4 hown hK hP 0 rfl rfl 1 (by decide) (hts (.fieldLink RX4 13 "PascalRows$Tapes" "lengths" "[I") (List.mem_of_getElem? (i := 2) rfl)) (fun _ h9 => h9) rfl dX4_become_15 ?_
      refine va_alen (v := (Int32.ofNat 6)) hx hb hK hP 2 0 rfl rfl rfl dX4_become_18 ?_
      refine lv_icmp_lt (tgt := 23) hx hb dX4_become_19 (by decide) (fun c_11 => ?_) (fun c_11 => ?_)
      · exact tF_3 (fun h => h.elim c_9 (fun h => h.elim c_10 (fun h => h c_11)))
      · exact tT_2 (Or.inr (Or.inr c_11))
/-! X4_value -/
def rmX4_value : Room := { frames := 2, cells := 0, slots := 0, locals := 44 }
set_option maxHeartbeats 4000000 in
set_option maxRecDepth 100000 in
theorem k_X4_value (l : Launch) (dC : Nat → ClassId) (dI : Nat → Nat → Nat) (cI cJ : ClassId) (a_o : Nat) (a_o_sorts : Nat) (a_o_lengths : Nat) (a_o_items : Nat) (p0 : Int32) (p1 : Int32) (o_lengths : Nat → Int32) (o_items : Nat → Int64) (r : Int64) (hr : f_X4_value p0 p1 o_lengths o_items = some r) : Met l yX4_value wsX4_value rmX4_value (va_Pc [.ref a_o, .int p0, .int p1] (pE (dC, dI) cI cJ [(a_o, .inr (3, [.ref a_o_sorts, .ref a_o_lengths, .ref a_o_items])), (a_o_lengths, .inl (cI, 6, .inl o_lengths)), (a_o_items, .inl (cJ, 360, .inr (.inl o_items)))])) (rq (.long r)) 0 0 nofree := by
  refine ro_of_l (cc := cX4_value) (maxL := 4) (by decide) rfl (Nat.le_of_ble_eq_true rfl) ?_
  intro p e s m args below meth c Q ls hx hb hml hown hts hE hP hret hl
  have hK := hE.1
  have hl : lv_has ls 4 [(0, .ref a_o), (1, .int p0), (2, .int p1)] := hl
  unfold f_X4_value at hr
  have iX4 : ∀ w ∈ wsX40, w ∈ wsX4_value := memr_ (big := wsX4_value) wsX40 [12, 13, 14] (by decide +kernel)
  refine lv_bipush (v := (60 : Int32)) hx hb dX4_value_0 (by decide) ?_
  refine lv_iload_n hx hb dX4_value_2 rfl (lv_at hl 1 rfl) ?_
  refine lv_imul hx hb dX4_value_3 ?_
  refine lv_iload_n hx hb dX4_value_4 rfl (lv_at hl 2 rfl) ?_
  refine lv_iadd hx hb dX4_value_5 ?_
  refine lv_istore_n (lv' := [(3, .int (((60 : Int32) * p0) + p1)), (0, .ref a_o), (1, .int p0), (2, .int p1)]) hx hb dX4_value_6 rfl hl (by decide) rfl (fun ls hl => ?_)
  refine lv_aload_n hx hb dX4_value_7 rfl (lv_at hl 1 rfl) ?_
  refine lv_iload_n hx hb dX4_value_8 rfl (lv_at hl 2 rfl) ?_
  refine lv_iload_n hx hb dX4_value_9 rfl (lv_at hl 3 rfl) ?_
  refine lv_iconst (v := (1 : Int32)) hx hb dX4_value_10 (by decide) ?_
  obtain ⟨u_1, hu_1, hr⟩ := bd_e hr
  refine ro_V ⟨hx, hb, hml, hown, hts⟩ (k_X4_hasRun l dC dI cI cJ a_o a_o_sorts a_o_lengths a_o_items p0 p1 (1 : Int32) o_lengths u_1 hu_1) (cwV 3 hts gX4_value_X4_hasRun rfl rfl rfl (by decide +kernel) ⟨Nat.le_of_ble_eq_true rfl, Nat.le_of_ble_eq_true rfl⟩) hE hP 0 rfl rfl rfl (hP.sub [0, 1] rfl) rfl hl.1 rfl (Nat.le_of_ble_eq_true rfl) dX4_value_11 ⟨Nat.zero_le _, Nat.zero_le _⟩ ?_
  have tT_3 : ((¬ (u_1 = 0)) ∧ ((¬ ((((60 : Int32) * p0) + p1) < 0)) ∧ (¬ ((Int32.ofNat 360) ≤ (((60 : Int32) * p0) + p1))))) → W p l e rmX4_value s m args below meth c s.heap [] 0 0 Q (F0 m 30 ls []) := by
    intro hc_2
    have hr := ite_p hr hc_2
    refine lv_aload_n hx hb dX4_value_30 rfl (lv_at hl 1 rfl) ?_
    refine va_get (D := (dC, dI)) (ci := 3) (v := .ref a_o_items) (C := RX4) (T := TX4) (N := 3) hx hb hts iX4 hown hK hP 0 rfl rfl 2 (by decide) (hts (.fieldLink RX4 16 "PascalRows$Tapes" "items" "[J") (List.mem_of_getElem? (i := 1) rfl)) (fun _ h9 => h9) rfl dX4_value_31 ?_
    refine lv_iload_n hx hb dX4_value_34 rfl (lv_at hl 0 rfl) ?_
    obtain ⟨g_4, eg_4, hg_4, hr⟩ := rd_e hr
    refine va_lald hx hb hK hP 2 1 rfl rfl hg_4 dX4_value_35 ?_
    refine tpl_ eg_4 ?_
    refine lv_goto (tgt := 40) hx hb dX4_value_36 (by decide) ?_
    exact hret 40 ls _ dX4_value_40 (Option.some.inj hr)
  have tF_5 : ¬ ((¬ (u_1 = 0)) ∧ ((¬ ((((60 : Int32) * p0) + p1) < 0)) ∧ (¬ ((Int32.ofNat 360) ≤ (((60 : Int32) * p0) + p1))))) → W p l e rmX4_value s m args below meth c s.heap [] 0 0 Q (F0 m 39 ls []) := by
    intro hc_2
    have hr := ite_n hr hc_2
    refine lv_lconst (v := (0 : Int64)) hx hb dX4_value_39 (by decide) ?_
    exact hret 40 ls _ dX4_value_40 (Option.some.inj hr)
  refine lv_if_eq (tgt := 39) hx hb dX4_value_14 (by decide) (fun c_6 => ?_) (fun c_6 => ?_)
  · exact tF_5 (fun h => (fun h => h c_6) h.1)
  · refine lv_iload_n hx hb dX4_value_17 rfl (lv_at hl 0 rfl) ?_
    refine lv_if_lt (tgt := 39) hx hb dX4_value_18 (by decide) (fun c_7 => ?_) (fun c_7 => ?_)
    · exact tF_5 (fun h => (fun h => (fun h => h c_7) h.1) h.2)
    · refine lv_iload_n hx hb dX4_value_21 rfl (lv_at hl 0 rfl) ?_
      refine lv_aload_n hx hb dX4_value_22 rfl (lv_at hl 1 rfl) ?_
      refine va_get (D := (dC, dI)) (ci := 3) (v := .ref a_o_items) (C := RX4) (T := TX4) (N := 3) hx hb hts iX4 hown hK hP 0 rfl rfl 2 (by decide) (hts (.fieldLink RX4 16 "PascalRows$Tapes" "items" "[J") (List.mem_of_getElem? (i := 1) rfl)) (fun _ h9 => h9) rfl dX4_value_23 ?_
      refine va_alen (v := (Int32.ofNat 360)) hx hb hK hP 2 1 rfl rfl rfl dX4_value_26 ?_
      refine lv_icmp_ge (tgt := 39) hx hb dX4_value_27 (by decide) (fun c_8 => ?_) (fun c_8 => ?_)
      · exact tF_5 (fun h => (fun h => (fun h => h c_8) h.2) h.2)
      · exact tT_3 ⟨c_6, ⟨c_7, c_8⟩⟩
