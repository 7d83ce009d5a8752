/-! X5_cell -/
def rmX5_cell : Room := { frames := 0, cells := 0, slots := 0, locals := 0 }
set_option maxHeartbeats 4000000 in
set_option maxRecDepth 100000 in
theorem k_X5_cell (l : Launch) (dC : Nat → ClassId) (dI : Nat → Nat → Nat) (cI cJ : ClassId) (a_o : Nat) (a_o_halves : Nat) (p0 : Int32) (p1 : Int32) (o_halves : Nat → Int32) (r : Int32) (hr : f_X5_cell p0 p1 o_halves = some r) : Met l yX5_cell wsX5_cell rmX5_cell (va_Pc [.ref a_o, .int p0, .int p1] (pE (dC, dI) cI cJ [(a_o, .inr (4, [.ref a_o_halves])), (a_o_halves, .inl (cI, 4160, .inl o_halves))])) (rq (.int r)) 0 0 nofree := by
  refine ro_of_i (cc := cX5_cell) (maxL := 5) (by decide) rfl (Nat.le_of_ble_eq_true rfl) ?_
  intro p e s m args below meth c Q ls hx hb hml hown hts hE hP hret hl
  have hK := hE.1
  have hl : lv_has ls 5 [(0, .ref a_o), (1, .int p0), (2, .int p1)] := hl
  unfold f_X5_cell at hr
  have iX5 : ∀ w ∈ wsX50, w ∈ wsX5_cell := memr_ (big := wsX5_cell) wsX50 [2] (by decide +kernel)
  refine lv_iload_n hx hb dX5_cell_0 rfl (lv_at hl 1 rfl) ?_
  have tT_2 : ((p0 < 0) ∨ (((127 : Int32) < p0) ∨ ((p1 < 0) ∨ (¬ (p1 ≤ p0))))) → W p l e rmX5_cell s m args below meth c s.heap [] 0 0 Q (F0 m 19 ls []) := by
    intro hc_1
    have hr := ite_p hr hc_1
    refine lv_iconst (v := (0 : Int32)) hx hb dX5_cell_19 (by decide) ?_
    exact hret 20 ls _ dX5_cell_20 (Option.some.inj hr)
  have tF_3 : ¬ ((p0 < 0) ∨ (((127 : Int32) < p0) ∨ ((p1 < 0) ∨ (¬ (p1 ≤ p0))))) → W p l e rmX5_cell s m args below meth c s.heap [] 0 0 Q (F0 m 21 ls []) := by
    intro hc_1
    have hr := ite_n hr hc_1
    refine lv_iload_n hx hb dX5_cell_21 rfl (lv_at hl 2 rfl) ?_
    refine lv_iload_n hx hb dX5_cell_22 rfl (lv_at hl 1 rfl) ?_
    refine lv_iconst (v := (2 : Int32)) hx hb dX5_cell_23 (by decide) ?_
    obtain ⟨d_4, ed_4, hd_4, hr⟩ := dv_e hr
    refine lv_idiv hx hb dX5_cell_24 hd_4 ?_
    refine tp_ ed_4 ?_
    have hJ_5 : ∀ (y_6 : Int32) (ey_6 : y_6 = (if (d_4 < p1) then (p0 - p1) else p1)) (ls : Array Slot), lv_has ls 5 [(0, .ref a_o), (1, .int p0)] → W p l e rmX5_cell s m args below meth c s.heap [] 0 0 Q (F0 m 35 ls [.int y_6]) := by
      intro y_6 ey_6 ls hl
      subst ey_6
      refine lv_istore_n (lv' := [(3, .int (if (d_4 < p1) then (p0 - p1) else p1)), (0, .ref a_o), (1, .int p0)]) hx hb dX5_cell_35 rfl hl (by decide) rfl (fun ls hl => ?_)
      refine lv_iload_n hx hb dX5_cell_36 rfl (lv_at hl 2 rfl) ?_
      refine lv_iconst (v := (1 : Int32)) hx hb dX5_cell_37 (by decide) ?_
      refine lv_iadd hx hb dX5_cell_38 ?_
      refine lv_iload_n hx hb dX5_cell_39 rfl (lv_at hl 2 rfl) ?_
      refine lv_iconst (v := (1 : Int32)) hx hb dX5_cell_40 (by decide) ?_
      refine lv_iadd hx hb dX5_cell_41 ?_
      refine lv_imul hx hb dX5_cell_42 ?_
      refine lv_iconst (v := (4 : Int32)) hx hb dX5_cell_43 (by decide) ?_
      obtain ⟨d_7, ed_7, hd_7, hr⟩ := dv_e hr
      refine lv_idiv hx hb dX5_cell_44 hd_7 ?_
      refine tp_ ed_7 ?_
      refine lv_iload_n hx hb dX5_cell_45 rfl (lv_at hl 0 rfl) ?_
      refine lv_iadd hx hb dX5_cell_46 ?_
      refine lv_istore (lv' := [(4, .int (d_7 + (if (d_4 < p1) then (p0 - p1) else p1))), (3, .int (if (d_4 < p1) then (p0 - p1) else p1)), (0, .ref a_o), (1, .int p0)]) hx hb dX5_cell_47 hl (by decide) rfl (fun ls hl => ?_)
      refine lv_iload hx hb dX5_cell_49 (lv_at hl 0 rfl) ?_
      have tT_9 : ((¬ ((d_7 + (if (d_4 < p1) then (p0 - p1) else p1)) < 0)) ∧ (¬ ((Int32.ofNat 4160) ≤ (d_7 + (if (d_4 < p1) then (p0 - p1) else p1))))) → W p l e rmX5_cell s m args below meth c s.heap [] 0 0 Q (F0 m 64 ls []) := by
        intro hc_8
        have hr := ite_p hr hc_8
        refine lv_aload_n hx hb dX5_cell_64 rfl (lv_at hl 2 rfl) ?_
        refine va_get (D := (dC, dI)) (ci := 4) (v := .ref a_o_halves) (C := RX5) (T := TX5) (N := 1) hx hb hts iX5 hown hK hP 0 rfl rfl 0 (by decide) (hts (.fieldLink RX5 9 "PascalRows$Triangle" "halves" "[I") (List.mem_of_getElem? (i := 1) rfl)) (fun _ h9 => h9) rfl dX5_cell_65 ?_
        refine lv_iload hx hb dX5_cell_68 (lv_at hl 0 rfl) ?_
        obtain ⟨g_10, eg_10, hg_10, hr⟩ := rd_e hr
        refine va_iald hx hb hK hP 1 0 rfl rfl hg_10 dX5_cell_70 ?_
        refine tp_ eg_10 ?_
        refine lv_goto (tgt := 75) hx hb dX5_cell_71 (by decide) ?_
        exact hret 75 ls _ dX5_cell_75 (Option.some.inj hr)
      have tF_11 : ¬ ((¬ ((d_7 + (if (d_4 < p1) then (p0 - p1) else p1)) < 0)) ∧ (¬ ((Int32.ofNat 4160) ≤ (d_7 + (if (d_4 < p1) then (p0 - p1) else p1))))) → W p l e rmX5_cell s m args below meth c s.heap [] 0 0 Q (F0 m 74 ls []) := by
        intro hc_8
        have hr := ite_n hr hc_8
        refine lv_iconst (v := (0 : Int32)) hx hb dX5_cell_74 (by decide) ?_
        exact hret 75 ls _ dX5_cell_75 (Option.some.inj hr)
      refine lv_if_lt (tgt := 74) hx hb dX5_cell_51 (by decide) (fun c_12 => ?_) (fun c_12 => ?_)
      · exact tF_11 (fun h => (fun h => h c_12) h.1)
      · refine lv_iload hx hb dX5_cell_54 (lv_at hl 0 rfl) ?_
        refine lv_aload_n hx hb dX5_cell_56 rfl (lv_at hl 2 rfl) ?_
        refine va_get (D := (dC, dI)) (ci := 4) (v := .ref a_o_halves) (C := RX5) (T := TX5) (N := 1) hx hb hts iX5 hown hK hP 0 rfl rfl 0 (by decide) (hts (.fieldLink RX5 9 "PascalRows$Triangle" "halves" "[I") (List.mem_of_getElem? (i := 1) rfl)) (fun _ h9 => h9) rfl dX5_cell_57 ?_
        refine va_alen (v := (Int32.ofNat 4160)) hx hb hK hP 1 0 rfl rfl rfl dX5_cell_60 ?_
        refine lv_icmp_ge (tgt := 74) hx hb dX5_cell_61 (by decide) (fun c_13 => ?_) (fun c_13 => ?_)
        · exact tF_11 (fun h => (fun h => h c_13) h.2)
        · exact tT_9 ⟨c_12, c_13⟩
    refine lv_icmp_gt (tgt := 32) hx hb dX5_cell_25 (by decide) (fun c_14 => ?_) (fun c_14 => ?_)
    · refine lv_iload_n hx hb dX5_cell_32 rfl (lv_at hl 1 rfl) ?_
      refine lv_iload_n hx hb dX5_cell_33 rfl (lv_at hl 2 rfl) ?_
      refine lv_isub hx hb dX5_cell_34 ?_
      exact hJ_5 _ (if_pos c_14).symm ls (lv_sub hl [0, 1] rfl)
    · refine lv_iload_n hx hb dX5_cell_28 rfl (lv_at hl 2 rfl) ?_
      refine lv_goto (tgt := 35) hx hb dX5_cell_29 (by decide) ?_
      exact hJ_5 _ (if_neg c_14).symm ls (lv_sub hl [0, 1] rfl)
  refine lv_if_lt (tgt := 19) hx hb dX5_cell_1 (by decide) (fun c_15 => ?_) (fun c_15 => ?_)
  · exact tT_2 (Or.inl c_15)
  · refine lv_iload_n hx hb dX5_cell_4 rfl (lv_at hl 1 rfl) ?_
    refine lv_bipush (v := (127 : Int32)) hx hb dX5_cell_5 (by decide) ?_
    refine lv_icmp_gt (tgt := 19) hx hb dX5_cell_7 (by decide) (fun c_16 => ?_) (fun c_16 => ?_)
    · exact tT_2 (Or.inr (Or.inl c_16))
    · refine lv_iload_n hx hb dX5_cell_10 rfl (lv_at hl 2 rfl) ?_
      refine lv_if_lt (tgt := 19) hx hb dX5_cell_11 (by decide) (fun c_17 => ?_) (fun c_17 => ?_)
      · exact tT_2 (Or.inr (Or.inr (Or.inl c_17)))
      · refine lv_iload_n hx hb dX5_cell_14 rfl (lv_at hl 2 rfl) ?_
        refine lv_iload_n hx hb dX5_cell_15 rfl (lv_at hl 1 rfl) ?_
        refine lv_icmp_le (tgt := 21) hx hb dX5_cell_16 (by decide) (fun c_18 => ?_) (fun c_18 => ?_)
        · exact tF_3 (fun h => h.elim c_15 (fun h => h.elim c_16 (fun h => h.elim c_17 (fun h => h c_18))))
        · exact tT_2 (Or.inr (Or.inr (Or.inr c_18)))
/-! X5_remainder -/
def rmX5_remainder : Room := { frames := 1, cells := 0, slots := 0, locals := 24 }
set_option maxHeartbeats 4000000 in
set_option maxRecDepth 100000 in
theorem k_X5_remainder (l : Launch) (dC : Nat → ClassId) (dI : Nat → Nat → Nat) (cI cJ : ClassId) (a_o : Nat) (a_o_halves : Nat) (p0 : Int32) (p1 : Int32) (p2 : Int32) (o_halves : Nat → Int32) (r : Int32) (hr : f_X5_remainder p0 p1 p2 o_halves = some r) : Met l yX5_remainder wsX5_remainder rmX5_remainder (va_Pc [.ref a_o, .int p0, .int p1, .int p2] (pE (dC, dI) cI cJ [(a_o, .inr (4, [.ref a_o_halves])), (a_o_halves, .inl (cI, 4160, .inl o_halves))])) (rq (.int r)) 0 0 nofree := by
  refine ro_of_i (cc := cX5_remainder) (maxL := 4) (by decide) rfl (Nat.le_of_ble_eq_true rfl) ?_
  intro p e s m args below meth c Q ls hx hb hml hown hts hE hP hret hl
  have hK := hE.1
  have hl : lv_has ls 4 [(0, .ref a_o), (1, .int p0), (2, .int p1), (3, .int p2)] := hl
  unfold f_X5_remainder at hr
  have iX5 : ∀ w ∈ wsX50, w ∈ wsX5_remainder := memr_ (big := wsX5_remainder) wsX50 [7] (by decide +kernel)
  refine lv_iload_n hx hb dX5_remainder_0 rfl (lv_at hl 3 rfl) ?_
  refine lv_if_le (tgt := 15) hx hb dX5_remainder_1 (by decide) (fun c_1 => ?_) (fun c_1 => ?_)
  · have hr := ite_p hr c_1
    refine lv_iconst (v := (0 : Int32)) hx hb dX5_remainder_15 (by decide) ?_
    exact hret 16 ls _ dX5_remainder_16 (Option.some.inj hr)
  · have hr := ite_n hr c_1
    refine lv_aload_n hx hb dX5_remainder_4 rfl (lv_at hl 0 rfl) ?_
    refine lv_iload_n hx hb dX5_remainder_5 rfl (lv_at hl 1 rfl) ?_
    refine lv_iload_n hx hb dX5_remainder_6 rfl (lv_at hl 2 rfl) ?_
    obtain ⟨u_2, hu_2, hr⟩ := bd_e hr
    refine ro_V ⟨hx, hb, hml, hown, hts⟩ (k_X5_cell l dC dI cI cJ a_o a_o_halves p0 p1 o_halves u_2 hu_2) (cwV 2 hts gX5_remainder_X5_cell rfl rfl rfl (by decide +kernel) ⟨Nat.le_of_ble_eq_true rfl, Nat.le_of_ble_eq_true rfl⟩) hE hP 0 rfl rfl rfl (hP.sub [0, 1] rfl) rfl hl.1 rfl (Nat.le_of_ble_eq_true rfl) dX5_remainder_7 ⟨Nat.zero_le _, Nat.zero_le _⟩ ?_
    refine lv_iload_n hx hb dX5_remainder_10 rfl (lv_at hl 3 rfl) ?_
    obtain ⟨d_3, ed_3, hd_3, hr⟩ := md_e hr
    refine lv_irem hx hb dX5_remainder_11 hd_3 ?_
    refine tp_ ed_3 ?_
    refine lv_goto (tgt := 16) hx hb dX5_remainder_12 (by decide) ?_
    exact hret 16 ls _ dX5_remainder_16 (Option.some.inj hr)
/-! X5_lucas -/
def rmX5_lucas : Room := { frames := 1, cells := 0, slots := 0, locals := 24 }
set_option maxHeartbeats 4000000 in
set_option maxRecDepth 100000 in
theorem k_X5_lucas (l : Launch) (dC : Nat → ClassId) (dI : Nat → Nat → Nat) (cI cJ : ClassId) (a_o : Nat) (a_o_halves : Nat) (p0 : Int32) (p1 : Int32) (p2 : Int32) (o_halves : Nat → Int32) (r : Int32) (hr : f_X5_lucas p0 p1 p2 o_halves = some r) : Met l yX5_lucas wsX5_lucas rmX5_lucas (va_Pc [.ref a_o, .int p0, .int p1, .int p2] (pE (dC, dI) cI cJ [(a_o, .inr (4, [.ref a_o_halves])), (a_o_halves, .inl (cI, 4160, .inl o_halves))])) (rq (.int r)) 0 0 nofree := by
  refine ro_of_i (cc := cX5_lucas) (maxL := 8) (by decide) rfl (Nat.le_of_ble_eq_true rfl) ?_
  intro p e s m args below meth c Q ls hx hb hml hown hts hE hP hret hl
  have hK := hE.1
  have hl : lv_has ls 8 [(0, .ref a_o), (1, .int p0), (2, .int p1), (3, .int p2)] := hl
  unfold f_X5_lucas at hr
  have iX5 : ∀ w ∈ wsX50, w ∈ wsX5_lucas := memr_ (big := wsX5_lucas) wsX50 [7] (by decide +kernel)
  refine lv_iload_n hx hb dX5_lucas_0 rfl (lv_at hl 1 rfl) ?_
  refine lv_iconst (v := (2 : Int32)) hx hb dX5_lucas_1 (by decide) ?_
  refine lv_icmp_ge (tgt := 7) hx hb dX5_lucas_2 (by decide) (fun c_1 => ?_) (fun c_1 => ?_)
  · have hr := ite_p hr c_1
    refine lv_iconst (v := (1 : Int32)) hx hb dX5_lucas_7 (by decide) ?_
    refine lv_istore (lv' := [(4, .int (1 : Int32)), (0, .ref a_o), (1, .int p0), (2, .int p1), (3, .int p2)]) hx hb dX5_lucas_8 hl (by decide) rfl (fun ls hl => ?_)
    refine lv_iload_n hx hb dX5_lucas_10 rfl (lv_at hl 3 rfl) ?_
    refine lv_istore (lv' := [(5, .int p1), (4, .int (1 : Int32)), (0, .ref a_o), (1, .int p0), (2, .int p1), (3, .int p2)]) hx hb dX5_lucas_11 hl (by decide) rfl (fun ls hl => ?_)
    refine lv_iload_n hx hb dX5_lucas_13 rfl (lv_at hl 5 rfl) ?_
    refine lv_istore (lv' := [(6, .int p2), (5, .int p1), (4, .int (1 : Int32)), (0, .ref a_o), (1, .int p0), (2, .int p1), (3, .int p2)]) hx hb dX5_lucas_14 hl (by decide) rfl (fun ls hl => ?_)
    refine lv_iconst (v := (0 : Int32)) hx hb dX5_lucas_16 (by decide) ?_
    refine lv_istore (lv' := [(7, .int (0 : Int32)), (6, .int p2), (5, .int p1), (4, .int (1 : Int32)), (0, .ref a_o), (1, .int p0), (2, .int p1), (3, .int p2)]) hx hb dX5_lucas_17 hl (by decide) rfl (fun ls hl => ?_)
    have hL19 : ∀ (v1_19 : Int32) (k_19 : Int32 → Option (Int32)) (hk : ∀ (x4_19 : Int32) (ls : Array Slot), lv_has ls 8 [(4, .int x4_19)] → k_19 x4_19 = some r → W p l e rmX5_lucas s m args below meth c s.heap [] 0 0 Q (F0 m 68 ls [])) (fuel : Nat) (v4_19 : Int32) (v5_19 : Int32) (v6_19 : Int32) (v7_19 : Int32) (ls : Array Slot), lv_has ls 8 [(0, .ref a_o), (1, .int v1_19), (4, .int v4_19), (5, .int v5_19), (6, .int v6_19), (7, .int v7_19)] → f_X5_lucas_L19 k_19 v1_19 o_halves fuel v4_19 v5_19 v6_19 v7_19 = some r → W p l e rmX5_lucas s m args below meth c s.heap [] 0 0 Q (F0 m 19 ls []) := by
      intro v1_19 k_19 hk fuel
      induction fuel with
      | zero =>
        intro v4_19 v5_19 v6_19 v7_19 ls hl hr
        rw [f_X5_lucas_L19_z] at hr
        cases hr
      | succ fuel ih =>
        intro v4_19 v5_19 v6_19 v7_19 ls hl hr
        rw [f_X5_lucas_L19_s] at hr
        refine lv_iload hx hb dX5_lucas_19 (lv_at hl 5 rfl) ?_
        refine lv_bipush (v := (14 : Int32)) hx hb dX5_lucas_21 (by decide) ?_
        have tT_3 : ((¬ ((14 : Int32) ≤ v7_19)) ∧ (¬ (v5_19 ≤ 0))) → W p l e rmX5_lucas s m args below meth c s.heap [] 0 0 Q (F0 m 31 ls []) := by
          intro hc_2
          have hr := ite_p hr hc_2
          refine lv_iload hx hb dX5_lucas_31 (lv_at hl 2 rfl) ?_
          refine lv_aload_n hx hb dX5_lucas_33 rfl (lv_at hl 0 rfl) ?_
          refine lv_iload hx hb dX5_lucas_34 (lv_at hl 3 rfl) ?_
          refine lv_iload_n hx hb dX5_lucas_36 rfl (lv_at hl 1 rfl) ?_
          obtain ⟨d_4, ed_4, hd_4, hr⟩ := md_e hr
          refine lv_irem hx hb dX5_lucas_37 hd_4 ?_
          refine tp_ ed_4 ?_
          refine lv_iload hx hb dX5_lucas_38 (lv_at hl 4 rfl) ?_
          refine lv_iload_n hx hb dX5_lucas_40 rfl (lv_at hl 1 rfl) ?_
          obtain ⟨d_5, ed_5, hd_5, hr⟩ := md_e hr
          refine lv_irem hx hb dX5_lucas_41 hd_5 ?_
          refine tp_ ed_5 ?_
          obtain ⟨u_6, hu_6, hr⟩ := bd_e hr
          refine ro_V ⟨hx, hb, hml, hown, hts⟩ (k_X5_cell l dC dI cI cJ a_o a_o_halves d_4 d_5 o_halves u_6 hu_6) (cwV 2 hts gX5_lucas_X5_cell rfl rfl rfl (by decide +kernel) ⟨Nat.le_of_ble_eq_true rfl, Nat.le_of_ble_eq_true rfl⟩) hE hP 0 rfl rfl rfl (hP.sub [0, 1] rfl) rfl hl.1 rfl (Nat.le_of_ble_eq_true rfl) dX5_lucas_42 ⟨Nat.zero_le _, Nat.zero_le _⟩ ?_
          refine lv_imul hx hb dX5_lucas_45 ?_
          refine lv_iload_n hx hb dX5_lucas_46 rfl (lv_at hl 1 rfl) ?_
          obtain ⟨d_7, ed_7, hd_7, hr⟩ := md_e hr
          refine lv_irem hx hb dX5_lucas_47 hd_7 ?_
          refine tp_ ed_7 ?_
          refine lv_istore (lv' := [(4, .int d_7), (0, .ref a_o), (1, .int v1_19), (5, .int v5_19), (6, .int v6_19), (7, .int v7_19)]) hx hb dX5_lucas_48 hl (by decide) rfl (fun ls hl => ?_)
          refine lv_iload hx hb dX5_lucas_50 (lv_at hl 3 rfl) ?_
          refine lv_iload_n hx hb dX5_lucas_52 rfl (lv_at hl 2 rfl) ?_
          obtain ⟨d_8, ed_8, hd_8, hr⟩ := dv_e hr
          refine lv_idiv hx hb dX5_lucas_53 hd_8 ?_
          refine tp_ ed_8 ?_
          refine lv_istore (lv' := [(5, .int d_8), (4, .int d_7), (0, .ref a_o), (1, .int v1_19), (6, .int v6_19), (7, .int v7_19)]) hx hb dX5_lucas_54 hl (by decide) rfl (fun ls hl => ?_)
          refine lv_iload hx hb dX5_lucas_56 (lv_at hl 4 rfl) ?_
          refine lv_iload_n hx hb dX5_lucas_58 rfl (lv_at hl 3 rfl) ?_
          obtain ⟨d_9, ed_9, hd_9, hr⟩ := dv_e hr
          refine lv_idiv hx hb dX5_lucas_59 hd_9 ?_
          refine tp_ ed_9 ?_
          refine lv_istore (lv' := [(6, .int d_9), (5, .int d_8), (4, .int d_7), (0, .ref a_o), (1, .int v1_19), (7, .int v7_19)]) hx hb dX5_lucas_60 hl (by decide) rfl (fun ls hl => ?_)
          refine lv_iinc (v := (v7_19 + (1 : Int32))) (lv' := [(7, .int (v7_19 + (1 : Int32))), (6, .int d_9), (5, .int d_8), (4, .int d_7), (0, .ref a_o), (1, .int v1_19)]) hx hb dX5_lucas_62 hl (k := 5) rfl (congrArg (fun z => v7_19 + z) (by decide)) (by decide) rfl (fun ls hl => ?_)
          refine lv_goto (tgt := 19) hx hb dX5_lucas_65 (by decide) ?_
          exact ih d_7 d_8 d_9 (v7_19 + (1 : Int32)) ls (lv_sub hl [4, 5, 3, 2, 1, 0] rfl) hr
        have tF_10 : ¬ ((¬ ((14 : Int32) ≤ v7_19)) ∧ (¬ (v5_19 ≤ 0))) → W p l e rmX5_lucas s m args below meth c s.heap [] 0 0 Q (F0 m 68 ls []) := by
          intro hc_2
          have hr := ite_n hr hc_2
          exact hk v4_19 ls (lv_sub hl [2] rfl) hr
        refine lv_icmp_ge (tgt := 68) hx hb dX5_lucas_23 (by decide) (fun c_11 => ?_) (fun c_11 => ?_)
        · exact tF_10 (fun h => (fun h => h c_11) h.1)
        · refine lv_iload hx hb dX5_lucas_26 (lv_at hl 3 rfl) ?_
          refine lv_if_le (tgt := 68) hx hb dX5_lucas_28 (by decide) (fun c_12 => ?_) (fun c_12 => ?_)
          · exact tF_10 (fun h => (fun h => h c_12) h.2)
          · exact tT_3 ⟨c_11, c_12⟩
    refine hL19 p0 _ (fun x4_19 ls hl hr => ?_) 5000 (1 : Int32) p1 p2 (0 : Int32) ls (lv_sub hl [4, 5, 3, 2, 1, 0] rfl) hr
    refine lv_iload hx hb dX5_lucas_68 (lv_at hl 0 rfl) ?_
    exact hret 70 ls _ dX5_lucas_70 (Option.some.inj hr)
  · have hr := ite_n hr c_1
    refine lv_iconst (v := (0 : Int32)) hx hb dX5_lucas_5 (by decide) ?_
    exact hret 6 ls _ dX5_lucas_6 (Option.some.inj hr)
