/-! X0_powerOf -/
def rmX0_powerOf : Room := { frames := 0, cells := 0, slots := 0, locals := 0 }
set_option maxHeartbeats 4000000 in
set_option maxRecDepth 100000 in
theorem k_X0_powerOf (l : Launch) (dC : Nat → ClassId) (dI : Nat → Nat → Nat) (cI cJ : ClassId) (p0 : Int32) (p1 : Int32) (r : Int32) (hr : f_X0_powerOf p0 p1 = some r) : Met l yX0_powerOf wsX0_powerOf rmX0_powerOf (va_Pc [.int p0, .int p1] (pE (dC, dI) cI cJ [])) (rq (.int r)) 0 0 nofree := by
  refine ro_of_i (cc := cX0_powerOf) (maxL := 4) (by decide) rfl (Nat.le_of_ble_eq_true rfl) ?_
  intro p e s m args below meth c Q ls hx hb hml hown hts hE hP hret hl
  have hK := hE.1
  have hl : lv_has ls 4 [(0, .int p0), (1, .int p1)] := hl
  unfold f_X0_powerOf at hr
  refine lv_iconst (v := (1 : Int32)) hx hb dX0_powerOf_0 (by decide) ?_
  refine lv_istore_n (lv' := [(2, .int (1 : Int32)), (0, .int p0), (1, .int p1)]) hx hb dX0_powerOf_1 rfl hl (by decide) rfl (fun ls hl => ?_)
  refine lv_iconst (v := (0 : Int32)) hx hb dX0_powerOf_2 (by decide) ?_
  refine lv_istore_n (lv' := [(3, .int (0 : Int32)), (2, .int (1 : Int32)), (0, .int p0), (1, .int p1)]) hx hb dX0_powerOf_3 rfl hl (by decide) rfl (fun ls hl => ?_)
  have hL4 : ∀ (v0_4 : Int32) (v1_4 : Int32) (k_4 : Int32 → Option (Int32)) (hk : ∀ (x2_4 : Int32) (ls : Array Slot), lv_has ls 4 [(2, .int x2_4)] → k_4 x2_4 = some r → W p l e rmX0_powerOf s m args below meth c s.heap [] 0 0 Q (F0 m 19 ls [])) (fuel : Nat) (v2_4 : Int32) (v3_4 : Int32) (ls : Array Slot), lv_has ls 4 [(0, .int v0_4), (1, .int v1_4), (2, .int v2_4), (3, .int v3_4)] → f_X0_powerOf_L4 k_4 v0_4 v1_4 fuel v2_4 v3_4 = some r → W p l e rmX0_powerOf s m args below meth c s.heap [] 0 0 Q (F0 m 4 ls []) := by
    intro v0_4 v1_4 k_4 hk fuel
    induction fuel with
    | zero =>
      intro v2_4 v3_4 ls hl hr
      rw [f_X0_powerOf_L4_z] at hr
      cases hr
    | succ fuel ih =>
      intro v2_4 v3_4 ls hl hr
      rw [f_X0_powerOf_L4_s] at hr
      refine lv_iload_n hx hb dX0_powerOf_4 rfl (lv_at hl 3 rfl) ?_
      refine lv_iload_n hx hb dX0_powerOf_5 rfl (lv_at hl 1 rfl) ?_
      refine lv_icmp_ge (tgt := 19) hx hb dX0_powerOf_6 (by decide) (fun c_1 => ?_) (fun c_1 => ?_)
      · have hr := ite_p hr c_1
        exact hk v2_4 ls (lv_sub hl [2] rfl) hr
      · have hr := ite_n hr c_1
        refine lv_iload_n hx hb dX0_powerOf_9 rfl (lv_at hl 2 rfl) ?_
        refine lv_iload_n hx hb dX0_powerOf_10 rfl (lv_at hl 0 rfl) ?_
        refine lv_imul hx hb dX0_powerOf_11 ?_
        refine lv_istore_n (lv' := [(2, .int (v2_4 * v0_4)), (0, .int v0_4), (1, .int v1_4), (3, .int v3_4)]) hx hb dX0_powerOf_12 rfl hl (by decide) rfl (fun ls hl => ?_)
        refine lv_iinc (v := (v3_4 + (1 : Int32))) (lv' := [(3, .int (v3_4 + (1 : Int32))), (2, .int (v2_4 * v0_4)), (0, .int v0_4), (1, .int v1_4)]) hx hb dX0_powerOf_13 hl (k := 3) rfl (congrArg (fun z => v3_4 + z) (by decide)) (by decide) rfl (fun ls hl => ?_)
        refine lv_goto (tgt := 4) hx hb dX0_powerOf_16 (by decide) ?_
        exact ih (v2_4 * v0_4) (v3_4 + (1 : Int32)) ls (lv_sub hl [2, 3, 1, 0] rfl) hr
  refine hL4 p0 p1 _ (fun x2_4 ls hl hr => ?_) 5000 (1 : Int32) (0 : Int32) ls (lv_sub hl [2, 3, 1, 0] rfl) hr
  refine lv_iload_n hx hb dX0_powerOf_19 rfl (lv_at hl 0 rfl) ?_
  exact hret 20 ls _ dX0_powerOf_20 (Option.some.inj hr)
/-! X0_carries -/
def rmX0_carries : Room := { frames := 0, cells := 0, slots := 0, locals := 0 }
set_option maxHeartbeats 4000000 in
set_option maxRecDepth 100000 in
theorem k_X0_carries (l : Launch) (dC : Nat → ClassId) (dI : Nat → Nat → Nat) (cI cJ : ClassId) (p0 : Int32) (p1 : Int32) (p2 : Int32) (r : Int32) (hr : f_X0_carries p0 p1 p2 = some r) : Met l yX0_carries wsX0_carries rmX0_carries (va_Pc [.int p0, .int p1, .int p2] (pE (dC, dI) cI cJ [])) (rq (.int r)) 0 0 nofree := by
  refine ro_of_i (cc := cX0_carries) (maxL := 8) (by decide) rfl (Nat.le_of_ble_eq_true rfl) ?_
  intro p e s m args below meth c Q ls hx hb hml hown hts hE hP hret hl
  have hK := hE.1
  have hl : lv_has ls 8 [(0, .int p0), (1, .int p1), (2, .int p2)] := hl
  unfold f_X0_carries at hr
  refine lv_iload_n hx hb dX0_carries_0 rfl (lv_at hl 0 rfl) ?_
  refine lv_iconst (v := (2 : Int32)) hx hb dX0_carries_1 (by decide) ?_
  refine lv_icmp_ge (tgt := 7) hx hb dX0_carries_2 (by decide) (fun c_1 => ?_) (fun c_1 => ?_)
  · have hr := ite_p hr c_1
    refine lv_iload_n hx hb dX0_carries_7 rfl (lv_at hl 2 rfl) ?_
    refine lv_istore_n (lv' := [(3, .int p2), (0, .int p0), (1, .int p1), (2, .int p2)]) hx hb dX0_carries_8 rfl hl (by decide) rfl (fun ls hl => ?_)
    refine lv_iload_n hx hb dX0_carries_9 rfl (lv_at hl 2 rfl) ?_
    refine lv_iload_n hx hb dX0_carries_10 rfl (lv_at hl 3 rfl) ?_
    refine lv_isub hx hb dX0_carries_11 ?_
    refine lv_istore (lv' := [(4, .int (p1 - p2)), (3, .int p2), (0, .int p0), (1, .int p1), (2, .int p2)]) hx hb dX0_carries_12 hl (by decide) rfl (fun ls hl => ?_)
    refine lv_iconst (v := (0 : Int32)) hx hb dX0_carries_14 (by decide) ?_
    refine lv_istore (lv' := [(5, .int (0 : Int32)), (4, .int (p1 - p2)), (3, .int p2), (0, .int p0), (1, .int p1), (2, .int p2)]) hx hb dX0_carries_15 hl (by decide) rfl (fun ls hl => ?_)
    refine lv_iconst (v := (0 : Int32)) hx hb dX0_carries_17 (by decide) ?_
    refine lv_istore (lv' := [(6, .int (0 : Int32)), (5, .int (0 : Int32)), (4, .int (p1 - p2)), (3, .int p2), (0, .int p0), (1, .int p1), (2, .int p2)]) hx hb dX0_carries_18 hl (by decide) rfl (fun ls hl => ?_)
    refine lv_iconst (v := (0 : Int32)) hx hb dX0_carries_20 (by decide) ?_
    refine lv_istore (lv' := [(7, .int (0 : Int32)), (6, .int (0 : Int32)), (5, .int (0 : Int32)), (4, .int (p1 - p2)), (3, .int p2), (0, .int p0), (1, .int p1), (2, .int p2)]) hx hb dX0_carries_21 hl (by decide) rfl (fun ls hl => ?_)
    have hL23 : ∀ (v0_23 : Int32) (k_23 : Int32 → Option (Int32)) (hk : ∀ (x6_23 : Int32) (ls : Array Slot), lv_has ls 8 [(6, .int x6_23)] → k_23 x6_23 = some r → W p l e rmX0_carries s m args below meth c s.heap [] 0 0 Q (F0 m 84 ls [])) (fuel : Nat) (v3_23 : Int32) (v4_23 : Int32) (v5_23 : Int32) (v6_23 : Int32) (v7_23 : Int32) (ls : Array Slot), lv_has ls 8 [(0, .int v0_23), (3, .int v3_23), (4, .int v4_23), (5, .int v5_23), (6, .int v6_23), (7, .int v7_23)] → f_X0_carries_L23 k_23 v0_23 fuel v3_23 v4_23 v5_23 v6_23 v7_23 = some r → W p l e rmX0_carries s m args below meth c s.heap [] 0 0 Q (F0 m 23 ls []) := by
      intro v0_23 k_23 hk fuel
      induction fuel with
      | zero =>
        intro v3_23 v4_23 v5_23 v6_23 v7_23 ls hl hr
        rw [f_X0_carries_L23_z] at hr
        cases hr
      | succ fuel ih =>
        intro v3_23 v4_23 v5_23 v6_23 v7_23 ls hl hr
        rw [f_X0_carries_L23_s] at hr
        refine lv_iload hx hb dX0_carries_23 (lv_at hl 5 rfl) ?_
        refine lv_bipush (v := (14 : Int32)) hx hb dX0_carries_25 (by decide) ?_
        have tT_3 : ((¬ ((14 : Int32) ≤ v7_23)) ∧ ((0 < v3_23) ∨ (¬ (v4_23 ≤ 0)))) → W p l e rmX0_carries s m args below meth c s.heap [] 0 0 Q (F0 m 39 ls []) := by
          intro hc_2
          have hr := ite_p hr hc_2
          refine lv_iload_n hx hb dX0_carries_39 rfl (lv_at hl 1 rfl) ?_
          refine lv_iload_n hx hb dX0_carries_40 rfl (lv_at hl 0 rfl) ?_
          obtain ⟨d_4, ed_4, hd_4, hr⟩ := md_e hr
          refine lv_irem hx hb dX0_carries_41 hd_4 ?_
          refine tp_ ed_4 ?_
          refine lv_iload hx hb dX0_carries_42 (lv_at hl 2 rfl) ?_
          refine lv_iload_n hx hb dX0_carries_44 rfl (lv_at hl 0 rfl) ?_
          obtain ⟨d_5, ed_5, hd_5, hr⟩ := md_e hr
          refine lv_irem hx hb dX0_carries_45 hd_5 ?_
          refine tp_ ed_5 ?_
          refine lv_iadd hx hb dX0_carries_46 ?_
          refine lv_iload hx hb dX0_carries_47 (lv_at hl 3 rfl) ?_
          refine lv_iadd hx hb dX0_carries_49 ?_
          refine lv_iload_n hx hb dX0_carries_50 rfl (lv_at hl 0 rfl) ?_
          have hJ_6 : ∀ (y_7 : Int32) (ey_7 : y_7 = (if (¬ (((d_4 + d_5) + v5_23) < v0_23)) then (1 : Int32) else (0 : Int32))) (ls : Array Slot), lv_has ls 8 [(0, .int v0_23), (3, .int v3_23), (4, .int v4_23), (6, .int v6_23), (7, .int v7_23)] → W p l e rmX0_carries s m args below meth c s.heap [] 0 0 Q (F0 m 59 ls [.int y_7]) := by
            intro y_7 ey_7 ls hl
            have hr := qn_e hr ey_7
            refine lv_istore (lv' := [(5, .int y_7), (0, .int v0_23), (3, .int v3_23), (4, .int v4_23), (6, .int v6_23), (7, .int v7_23)]) hx hb dX0_carries_59 hl (by decide) rfl (fun ls hl => ?_)
            refine lv_iload hx hb dX0_carries_61 (lv_at hl 4 rfl) ?_
            refine lv_iload hx hb dX0_carries_63 (lv_at hl 0 rfl) ?_
            refine lv_iadd hx hb dX0_carries_65 ?_
            refine lv_istore (lv' := [(6, .int (v6_23 + y_7)), (5, .int y_7), (0, .int v0_23), (3, .int v3_23), (4, .int v4_23), (7, .int v7_23)]) hx hb dX0_carries_66 hl (by decide) rfl (fun ls hl => ?_)
            refine lv_iload_n hx hb dX0_carries_68 rfl (lv_at hl 3 rfl) ?_
            refine lv_iload_n hx hb dX0_carries_69 rfl (lv_at hl 2 rfl) ?_
            obtain ⟨d_8, ed_8, hd_8, hr⟩ := dv_e hr
            refine lv_idiv hx hb dX0_carries_70 hd_8 ?_
            refine tp_ ed_8 ?_
            refine lv_istore_n (lv' := [(3, .int d_8), (6, .int (v6_23 + y_7)), (5, .int y_7), (0, .int v0_23), (4, .int v4_23), (7, .int v7_23)]) hx hb dX0_carries_71 rfl hl (by decide) rfl (fun ls hl => ?_)
            refine lv_iload hx hb dX0_carries_72 (lv_at hl 4 rfl) ?_
            refine lv_iload_n hx hb dX0_carries_74 rfl (lv_at hl 3 rfl) ?_
            obtain ⟨d_9, ed_9, hd_9, hr⟩ := dv_e hr
            refine lv_idiv hx hb dX0_carries_75 hd_9 ?_
            refine tp_ ed_9 ?_
            refine lv_istore (lv' := [(4, .int d_9), (3, .int d_8), (6, .int (v6_23 + y_7)), (5, .int y_7), (0, .int v0_23), (7, .int v7_23)]) hx hb dX0_carries_76 hl (by decide) rfl (fun ls hl => ?_)
            refine lv_iinc (v := (v7_23 + (1 : Int32))) (lv' := [(7, .int (v7_23 + (1 : Int32))), (4, .int d_9), (3, .int d_8), (6, .int (v6_23 + y_7)), (5, .int y_7), (0, .int v0_23)]) hx hb dX0_carries_78 hl (k := 5) rfl (congrArg (fun z => v7_23 + z) (by decide)) (by decide) rfl (fun ls hl => ?_)
            refine lv_goto (tgt := 23) hx hb dX0_carries_81 (by decide) ?_
            exact ih d_8 d_9 y_7 (v6_23 + y_7) (v7_23 + (1 : Int32)) ls (lv_sub hl [5, 2, 1, 4, 3, 0] rfl) hr
          refine lv_icmp_lt (tgt := 58) hx hb dX0_carries_51 (by decide) (fun c_10 => ?_) (fun c_10 => ?_)
          · refine lv_iconst (v := (0 : Int32)) hx hb dX0_carries_58 (by decide) ?_
            exact hJ_6 _ (if_neg (fun h => h c_10)).symm ls (lv_sub hl [0, 1, 2, 4, 5] rfl)
          · refine lv_iconst (v := (1 : Int32)) hx hb dX0_carries_54 (by decide) ?_
            refine lv_goto (tgt := 59) hx hb dX0_carries_55 (by decide) ?_
            exact hJ_6 _ (if_pos c_10).symm ls (lv_sub hl [0, 1, 2, 4, 5] rfl)
        have tF_11 : ¬ ((¬ ((14 : Int32) ≤ v7_23)) ∧ ((0 < v3_23) ∨ (¬ (v4_23 ≤ 0)))) → W p l e rmX0_carries s m args below meth c s.heap [] 0 0 Q (F0 m 84 ls []) := by
          intro hc_2
          have hr := ite_n hr hc_2
          exact hk v6_23 ls (lv_sub hl [4] rfl) hr
        refine lv_icmp_ge (tgt := 84) hx hb dX0_carries_27 (by decide) (fun c_12 => ?_) (fun c_12 => ?_)
        · exact tF_11 (fun h => (fun h => h c_12) h.1)
        · refine lv_iload_n hx hb dX0_carries_30 rfl (lv_at hl 1 rfl) ?_
          refine lv_if_gt (tgt := 39) hx hb dX0_carries_31 (by decide) (fun c_13 => ?_) (fun c_13 => ?_)
          · exact tT_3 ⟨c_12, (Or.inl c_13)⟩
          · refine lv_iload hx hb dX0_carries_34 (lv_at hl 2 rfl) ?_
            refine lv_if_le (tgt := 84) hx hb dX0_carries_36 (by decide) (fun c_14 => ?_) (fun c_14 => ?_)
            · exact tF_11 (fun h => (fun h => h.elim c_13 (fun h => h c_14)) h.2)
            · exact tT_3 ⟨c_12, (Or.inr c_14)⟩
    refine hL23 p0 _ (fun x6_23 ls hl hr => ?_) 5000 p2 (p1 - p2) (0 : Int32) (0 : Int32) (0 : Int32) ls (lv_sub hl [5, 4, 3, 2, 1, 0] rfl) hr
    refine lv_iload hx hb dX0_carries_84 (lv_at hl 0 rfl) ?_
    exact hret 86 ls _ dX0_carries_86 (Option.some.inj hr)
  · have hr := ite_n hr c_1
    refine lv_iconst (v := (0 : Int32)) hx hb dX0_carries_5 (by decide) ?_
    exact hret 6 ls _ dX0_carries_6 (Option.some.inj hr)
/-! X0_legendre -/
def rmX0_legendre : Room := { frames := 0, cells := 0, slots := 0, locals := 0 }
set_option maxHeartbeats 4000000 in
set_option maxRecDepth 100000 in
theorem k_X0_legendre (l : Launch) (dC : Nat → ClassId) (dI : Nat → Nat → Nat) (cI cJ : ClassId) (p0 : Int32) (p1 : Int32) (p2 : Int32) (r : Int32) (hr : f_X0_legendre p0 p1 p2 = some r) : Met l yX0_legendre wsX0_legendre rmX0_legendre (va_Pc [.int p0, .int p1, .int p2] (pE (dC, dI) cI cJ [])) (rq (.int r)) 0 0 nofree := by
  refine ro_of_i (cc := cX0_legendre) (maxL := 8) (by decide) rfl (Nat.le_of_ble_eq_true rfl) ?_
  intro p e s m args below meth c Q ls hx hb hml hown hts hE hP hret hl
  have hK := hE.1
  have hl : lv_has ls 8 [(0, .int p0), (1, .int p1), (2, .int p2)] := hl
  unfold f_X0_legendre at hr
  refine lv_iload_n hx hb dX0_legendre_0 rfl (lv_at hl 0 rfl) ?_
  refine lv_iconst (v := (2 : Int32)) hx hb dX0_legendre_1 (by decide) ?_
  refine lv_icmp_ge (tgt := 7) hx hb dX0_legendre_2 (by decide) (fun c_1 => ?_) (fun c_1 => ?_)
  · have hr := ite_p hr c_1
    refine lv_iconst (v := (0 : Int32)) hx hb dX0_legendre_7 (by decide) ?_
    refine lv_istore_n (lv' := [(3, .int (0 : Int32)), (0, .int p0), (1, .int p1), (2, .int p2)]) hx hb dX0_legendre_8 rfl hl (by decide) rfl (fun ls hl => ?_)
    refine lv_iload_n hx hb dX0_legendre_9 rfl (lv_at hl 2 rfl) ?_
    refine lv_iload_n hx hb dX0_legendre_10 rfl (lv_at hl 1 rfl) ?_
    obtain ⟨d_2, ed_2, hd_2, hr⟩ := dv_e hr
    refine lv_idiv hx hb dX0_legendre_11 hd_2 ?_
    refine tp_ ed_2 ?_
    refine lv_istore (lv' := [(4, .int d_2), (3, .int (0 : Int32)), (0, .int p0), (1, .int p1), (2, .int p2)]) hx hb dX0_legendre_12 hl (by decide) rfl (fun ls hl => ?_)
    refine lv_iload_n hx hb dX0_legendre_14 rfl (lv_at hl 4 rfl) ?_
    refine lv_iload_n hx hb dX0_legendre_15 rfl (lv_at hl 2 rfl) ?_
    obtain ⟨d_3, ed_3, hd_3, hr⟩ := dv_e hr
    refine lv_idiv hx hb dX0_legendre_16 hd_3 ?_
    refine tp_ ed_3 ?_
    refine lv_istore (lv' := [(5, .int d_3), (4, .int d_2), (3, .int (0 : Int32)), (0, .int p0), (1, .int p1), (2, .int p2)]) hx hb dX0_legendre_17 hl (by decide) rfl (fun ls hl => ?_)
    refine lv_iload_n hx hb dX0_legendre_19 rfl (lv_at hl 4 rfl) ?_
    refine lv_iload_n hx hb dX0_legendre_20 rfl (lv_at hl 5 rfl) ?_
    refine lv_isub hx hb dX0_legendre_21 ?_
    refine lv_iload_n hx hb dX0_legendre_22 rfl (lv_at hl 3 rfl) ?_
    obtain ⟨d_4, ed_4, hd_4, hr⟩ := dv_e hr
    refine lv_idiv hx hb dX0_legendre_23 hd_4 ?_
    refine tp_ ed_4 ?_
    refine lv_istore (lv' := [(6, .int d_4), (5, .int d_3), (4, .int d_2), (3, .int (0 : Int32)), (0, .int p0), (1, .int p1), (2, .int p2)]) hx hb dX0_legendre_24 hl (by decide) rfl (fun ls hl => ?_)
    refine lv_iconst (v := (0 : Int32)) hx hb dX0_legendre_26 (by decide) ?_
    refine lv_istore (lv' := [(7, .int (0 : Int32)), (6, .int d_4), (5, .int d_3), (4, .int d_2), (3, .int (0 : Int32)), (0, .int p0), (1, .int p1), (2, .int p2)]) hx hb dX0_legendre_27 hl (by decide) rfl (fun ls hl => ?_)
    have hL29 : ∀ (v0_29 : Int32) (k_29 : Int32 → Option (Int32)) (hk : ∀ (x3_29 : Int32) (ls : Array Slot), lv_has ls 8 [(3, .int x3_29)] → k_29 x3_29 = some r → W p l e rmX0_legendre s m args below meth c s.heap [] 0 0 Q (F0 m 76 ls [])) (fuel : Nat) (v3_29 : Int32) (v4_29 : Int32) (v5_29 : Int32) (v6_29 : Int32) (v7_29 : Int32) (ls : Array Slot), lv_has ls 8 [(0, .int v0_29), (3, .int v3_29), (4, .int v4_29), (5, .int v5_29), (6, .int v6_29), (7, .int v7_29)] → f_X0_legendre_L29 k_29 v0_29 fuel v3_29 v4_29 v5_29 v6_29 v7_29 = some r → W p l e rmX0_legendre s m args below meth c s.heap [] 0 0 Q (F0 m 29 ls []) := by
      intro v0_29 k_29 hk fuel
      induction fuel with
      | zero =>
        intro v3_29 v4_29 v5_29 v6_29 v7_29 ls hl hr
        rw [f_X0_legendre_L29_z] at hr
        cases hr
      | succ fuel ih =>
        intro v3_29 v4_29 v5_29 v6_29 v7_29 ls hl hr
        rw [f_X0_legendre_L29_s] at hr
        refine lv_iload hx hb dX0_legendre_29 (lv_at hl 5 rfl) ?_
        refine lv_bipush (v := (14 : Int32)) hx hb dX0_legendre_31 (by decide) ?_
        have tT_6 : ((¬ ((14 : Int32) ≤ v7_29)) ∧ (¬ (v4_29 ≤ 0))) → W p l e rmX0_legendre s m args below meth c s.heap [] 0 0 Q (F0 m 41 ls []) := by
          intro hc_5
          have hr := ite_p hr hc_5
          refine lv_iload_n hx hb dX0_legendre_41 rfl (lv_at hl 1 rfl) ?_
          refine lv_iload hx hb dX0_legendre_42 (lv_at hl 2 rfl) ?_
          refine lv_iload hx hb dX0_legendre_44 (lv_at hl 3 rfl) ?_
          refine lv_isub hx hb dX0_legendre_46 ?_
          refine lv_iload hx hb dX0_legendre_47 (lv_at hl 4 rfl) ?_
          refine lv_isub hx hb dX0_legendre_49 ?_
          refine lv_iadd hx hb dX0_legendre_50 ?_
          refine lv_istore_n (lv' := [(3, .int (v3_29 + ((v4_29 - v5_29) - v6_29))), (0, .int v0_29), (4, .int v4_29), (5, .int v5_29), (6, .int v6_29), (7, .int v7_29)]) hx hb dX0_legendre_51 rfl hl (by decide) rfl (fun ls hl => ?_)
          refine lv_iload hx hb dX0_legendre_52 (lv_at hl 2 rfl) ?_
          refine lv_iload_n hx hb dX0_legendre_54 rfl (lv_at hl 1 rfl) ?_
          obtain ⟨d_7, ed_7, hd_7, hr⟩ := dv_e hr
          refine lv_idiv hx hb dX0_legendre_55 hd_7 ?_
          refine tp_ ed_7 ?_
          refine lv_istore (lv' := [(4, .int d_7), (3, .int (v3_29 + ((v4_29 - v5_29) - v6_29))), (0, .int v0_29), (5, .int v5_29), (6, .int v6_29), (7, .int v7_29)]) hx hb dX0_legendre_56 hl (by decide) rfl (fun ls hl => ?_)
          refine lv_iload hx hb dX0_legendre_58 (lv_at hl 3 rfl) ?_
          refine lv_iload_n hx hb dX0_legendre_60 rfl (lv_at hl 2 rfl) ?_
          obtain ⟨d_8, ed_8, hd_8, hr⟩ := dv_e hr
          refine lv_idiv hx hb dX0_legendre_61 hd_8 ?_
          refine tp_ ed_8 ?_
          refine lv_istore (lv' := [(5, .int d_8), (4, .int d_7), (3, .int (v3_29 + ((v4_29 - v5_29) - v6_29))), (0, .int v0_29), (6, .int v6_29), (7, .int v7_29)]) hx hb dX0_legendre_62 hl (by decide) rfl (fun ls hl => ?_)
          refine lv_iload hx hb dX0_legendre_64 (lv_at hl 4 rfl) ?_
          refine lv_iload_n hx hb dX0_legendre_66 rfl (lv_at hl 3 rfl) ?_
          obtain ⟨d_9, ed_9, hd_9, hr⟩ := dv_e hr
          refine lv_idiv hx hb dX0_legendre_67 hd_9 ?_
          refine tp_ ed_9 ?_
          refine lv_istore (lv' := [(6, .int d_9), (5, .int d_8), (4, .int d_7), (3, .int (v3_29 + ((v4_29 - v5_29) - v6_29))), (0, .int v0_29), (7, .int v7_29)]) hx hb dX0_legendre_68 hl (by decide) rfl (fun ls hl => ?_)
          refine lv_iinc (v := (v7_29 + (1 : Int32))) (lv' := [(7, .int (v7_29 + (1 : Int32))), (6, .int d_9), (5, .int d_8), (4, .int d_7), (3, .int (v3_29 + ((v4_29 - v5_29) - v6_29))), (0, .int v0_29)]) hx hb dX0_legendre_70 hl (k := 5) rfl (congrArg (fun z => v7_29 + z) (by decide)) (by decide) rfl (fun ls hl => ?_)
          refine lv_goto (tgt := 29) hx hb dX0_legendre_73 (by decide) ?_
          exact ih (v3_29 + ((v4_29 - v5_29) - v6_29)) d_7 d_8 d_9 (v7_29 + (1 : Int32)) ls (lv_sub hl [5, 4, 3, 2, 1, 0] rfl) hr
        have tF_10 : ¬ ((¬ ((14 : Int32) ≤ v7_29)) ∧ (¬ (v4_29 ≤ 0))) → W p l e rmX0_legendre s m args below meth c s.heap [] 0 0 Q (F0 m 76 ls []) := by
          intro hc_5
          have hr := ite_n hr hc_5
          exact hk v3_29 ls (lv_sub hl [1] rfl) hr
        refine lv_icmp_ge (tgt := 76) hx hb dX0_legendre_33 (by decide) (fun c_11 => ?_) (fun c_11 => ?_)
        · exact tF_10 (fun h => (fun h => h c_11) h.1)
        · refine lv_iload hx hb dX0_legendre_36 (lv_at hl 2 rfl) ?_
          refine lv_if_le (tgt := 76) hx hb dX0_legendre_38 (by decide) (fun c_12 => ?_) (fun c_12 => ?_)
          · exact tF_10 (fun h => (fun h => h c_12) h.2)
          · exact tT_6 ⟨c_11, c_12⟩
    refine hL29 p0 _ (fun x3_29 ls hl hr => ?_) 5000 (0 : Int32) d_2 d_3 d_4 (0 : Int32) ls (lv_sub hl [5, 4, 3, 2, 1, 0] rfl) hr
    refine lv_iload_n hx hb dX0_legendre_76 rfl (lv_at hl 0 rfl) ?_
    exact hret 77 ls _ dX0_legendre_77 (Option.some.inj hr)
  · have hr := ite_n hr c_1
    refine lv_iconst (v := (0 : Int32)) hx hb dX0_legendre_5 (by decide) ?_
    exact hret 6 ls _ dX0_legendre_6 (Option.some.inj hr)
/-! X0_isCovered -/
def rmX0_isCovered : Room := { frames := 0, cells := 0, slots := 0, locals := 0 }
set_option maxHeartbeats 4000000 in
set_option maxRecDepth 100000 in
theorem k_X0_isCovered (l : Launch) (dC : Nat → ClassId) (dI : Nat → Nat → Nat) (cI cJ : ClassId) (p0 : Int32) (p1 : Int32) (p2 : Int32) (r : Int32) (hr : f_X0_isCovered p0 p1 p2 = some r) : Met l yX0_isCovered wsX0_isCovered rmX0_isCovered (va_Pc [.int p0, .int p1, .int p2] (pE (dC, dI) cI cJ [])) (rq (.int r)) 0 0 nofree := by
  refine ro_of_z (cc := cX0_isCovered) (maxL := 6) (by decide) rfl (Nat.le_of_ble_eq_true rfl) ?_
  intro p e s m args below meth c Q ls hx hb hml hown hts hE hP hret hl
  have hK := hE.1
  have hl : lv_has ls 6 [(0, .int p0), (1, .int p1), (2, .int p2)] := hl
  unfold f_X0_isCovered at hr
  refine lv_iload_n hx hb dX0_isCovered_0 rfl (lv_at hl 0 rfl) ?_
  refine lv_iconst (v := (2 : Int32)) hx hb dX0_isCovered_1 (by decide) ?_
  refine lv_icmp_ge (tgt := 7) hx hb dX0_isCovered_2 (by decide) (fun c_1 => ?_) (fun c_1 => ?_)
  · have hr := ite_p hr c_1
    refine lv_iload_n hx hb dX0_isCovered_7 rfl (lv_at hl 1 rfl) ?_
    refine lv_istore_n (lv' := [(3, .int p1), (0, .int p0), (1, .int p1), (2, .int p2)]) hx hb dX0_isCovered_8 rfl hl (by decide) rfl (fun ls hl => ?_)
    refine lv_iload_n hx hb dX0_isCovered_9 rfl (lv_at hl 3 rfl) ?_
    refine lv_istore (lv' := [(4, .int p2), (3, .int p1), (0, .int p0), (1, .int p1), (2, .int p2)]) hx hb dX0_isCovered_10 hl (by decide) rfl (fun ls hl => ?_)
    refine lv_iconst (v := (0 : Int32)) hx hb dX0_isCovered_12 (by decide) ?_
    refine lv_istore (lv' := [(5, .int (0 : Int32)), (4, .int p2), (3, .int p1), (0, .int p0), (1, .int p1), (2, .int p2)]) hx hb dX0_isCovered_13 hl (by decide) rfl (fun ls hl => ?_)
    have hL15 : ∀ (v0_15 : Int32) (k_15 : Option (Int32)) (hk : ∀  (ls : Array Slot), lv_has ls 6 [] → k_15 = some r → W p l e rmX0_isCovered s m args below meth c s.heap [] 0 0 Q (F0 m 55 ls [])) (fuel : Nat) (v3_15 : Int32) (v4_15 : Int32) (v5_15 : Int32) (ls : Array Slot), lv_has ls 6 [(0, .int v0_15), (3, .int v3_15), (4, .int v4_15), (5, .int v5_15)] → f_X0_isCovered_L15 k_15 v0_15 fuel v3_15 v4_15 v5_15 = some r → W p l e rmX0_isCovered s m args below meth c s.heap [] 0 0 Q (F0 m 15 ls []) := by
      intro v0_15 k_15 hk fuel
      induction fuel with
      | zero =>
        intro v3_15 v4_15 v5_15 ls hl hr
        rw [f_X0_isCovered_L15_z] at hr
        cases hr
      | succ fuel ih =>
        intro v3_15 v4_15 v5_15 ls hl hr
        rw [f_X0_isCovered_L15_s] at hr
        refine lv_iload hx hb dX0_isCovered_15 (lv_at hl 3 rfl) ?_
        refine lv_bipush (v := (14 : Int32)) hx hb dX0_isCovered_17 (by decide) ?_
        have tT_3 : ((¬ ((14 : Int32) ≤ v5_15)) ∧ (¬ (v4_15 ≤ 0))) → W p l e rmX0_isCovered s m args below meth c s.heap [] 0 0 Q (F0 m 27 ls []) := by
          intro hc_2
          have hr := ite_p hr hc_2
          refine lv_iload hx hb dX0_isCovered_27 (lv_at hl 2 rfl) ?_
          refine lv_iload_n hx hb dX0_isCovered_29 rfl (lv_at hl 0 rfl) ?_
          obtain ⟨d_4, ed_4, hd_4, hr⟩ := md_e hr
          refine lv_irem hx hb dX0_isCovered_30 hd_4 ?_
          refine tp_ ed_4 ?_
          refine lv_iload_n hx hb dX0_isCovered_31 rfl (lv_at hl 1 rfl) ?_
          refine lv_iload_n hx hb dX0_isCovered_32 rfl (lv_at hl 0 rfl) ?_
          obtain ⟨d_5, ed_5, hd_5, hr⟩ := md_e hr
          refine lv_irem hx hb dX0_isCovered_33 hd_5 ?_
          refine tp_ ed_5 ?_
          refine lv_icmp_le (tgt := 39) hx hb dX0_isCovered_34 (by decide) (fun c_6 => ?_) (fun c_6 => ?_)
          · have hr := ite_p hr c_6
            refine lv_iload_n hx hb dX0_isCovered_39 rfl (lv_at hl 1 rfl) ?_
            refine lv_iload_n hx hb dX0_isCovered_40 rfl (lv_at hl 0 rfl) ?_
            obtain ⟨d_7, ed_7, hd_7, hr⟩ := dv_e hr
            refine lv_idiv hx hb dX0_isCovered_41 hd_7 ?_
            refine tp_ ed_7 ?_
            refine lv_istore_n (lv' := [(3, .int d_7), (0, .int v0_15), (4, .int v4_15), (5, .int v5_15)]) hx hb dX0_isCovered_42 rfl hl (by decide) rfl (fun ls hl => ?_)
            refine lv_iload hx hb dX0_isCovered_43 (lv_at hl 2 rfl) ?_
            refine lv_iload_n hx hb dX0_isCovered_45 rfl (lv_at hl 1 rfl) ?_
            obtain ⟨d_8, ed_8, hd_8, hr⟩ := dv_e hr
            refine lv_idiv hx hb dX0_isCovered_46 hd_8 ?_
            refine tp_ ed_8 ?_
            refine lv_istore (lv' := [(4, .int d_8), (3, .int d_7), (0, .int v0_15), (5, .int v5_15)]) hx hb dX0_isCovered_47 hl (by decide) rfl (fun ls hl => ?_)
            refine lv_iinc (v := (v5_15 + (1 : Int32))) (lv' := [(5, .int (v5_15 + (1 : Int32))), (4, .int d_8), (3, .int d_7), (0, .int v0_15)]) hx hb dX0_isCovered_49 hl (k := 3) rfl (congrArg (fun z => v5_15 + z) (by decide)) (by decide) rfl (fun ls hl => ?_)
            refine lv_goto (tgt := 15) hx hb dX0_isCovered_52 (by decide) ?_
            exact ih d_7 d_8 (v5_15 + (1 : Int32)) ls (lv_sub hl [3, 2, 1, 0] rfl) hr
          · have hr := ite_n hr c_6
            refine lv_iconst (v := (0 : Int32)) hx hb dX0_isCovered_37 (by decide) ?_
            exact hret 38 ls _ dX0_isCovered_38 (Or.inl rfl) (Option.some.inj hr)
        have tF_9 : ¬ ((¬ ((14 : Int32) ≤ v5_15)) ∧ (¬ (v4_15 ≤ 0))) → W p l e rmX0_isCovered s m args below meth c s.heap [] 0 0 Q (F0 m 55 ls []) := by
          intro hc_2
          have hr := ite_n hr hc_2
          exact hk  ls (lv_sub hl [] rfl) hr
        refine lv_icmp_ge (tgt := 55) hx hb dX0_isCovered_19 (by decide) (fun c_10 => ?_) (fun c_10 => ?_)
        · exact tF_9 (fun h => (fun h => h c_10) h.1)
        · refine lv_iload hx hb dX0_isCovered_22 (lv_at hl 2 rfl) ?_
          refine lv_if_le (tgt := 55) hx hb dX0_isCovered_24 (by decide) (fun c_11 => ?_) (fun c_11 => ?_)
          · exact tF_9 (fun h => (fun h => h c_11) h.2)
          · exact tT_3 ⟨c_10, c_11⟩
    refine hL15 p0 _ (fun  ls hl hr => ?_) 5000 p1 p2 (0 : Int32) ls (lv_sub hl [3, 2, 1, 0] rfl) hr
    refine lv_iconst (v := (1 : Int32)) hx hb dX0_isCovered_55 (by decide) ?_
    exact hret 56 ls _ dX0_isCovered_56 (Or.inr rfl) (Option.some.inj hr)
  · have hr := ite_n hr c_1
    refine lv_iconst (v := (0 : Int32)) hx hb dX0_isCovered_5 (by decide) ?_
    exact hret 6 ls _ dX0_isCovered_6 (Or.inl rfl) (Option.some.inj hr)
/-! X6_isWithin -/
theorem fz_X6_isWithin (p0 : Int32) (p1 : Int32) (p2 : Int32) : f_X6_isWithin p0 p1 p2 = 0 ∨ f_X6_isWithin p0 p1 p2 = 1 := nb_lit _
def rmX6_isWithin : Room := { frames := 0, cells := 0, slots := 0, locals := 0 }
set_option maxHeartbeats 4000000 in
set_option maxRecDepth 100000 in
theorem k_X6_isWithin (l : Launch) (dC : Nat → ClassId) (dI : Nat → Nat → Nat) (cI cJ : ClassId) (p0 : Int32) (p1 : Int32) (p2 : Int32) : Met l yX6_isWithin wsX6_isWithin rmX6_isWithin (va_Pc [.int p0, .int p1, .int p2] (pE (dC, dI) cI cJ [])) (rq (.int (f_X6_isWithin p0 p1 p2))) 0 0 nofree := by
  refine ro_of_z (cc := cX6_isWithin) (maxL := 3) (by decide) rfl (Nat.le_of_ble_eq_true rfl) ?_
  intro p e s m args below meth c Q ls hx hb hml hown hts hE hP hret hl
  have hK := hE.1
  have hl : lv_has ls 3 [(0, .int p0), (1, .int p1), (2, .int p2)] := hl
  refine lv_iload_n hx hb dX6_isWithin_0 rfl (lv_at hl 0 rfl) ?_
  refine lv_iload_n hx hb dX6_isWithin_1 rfl (lv_at hl 1 rfl) ?_
  have hJ_1 : ∀ (y_2 : Int32) (ey_2 : y_2 = (if (¬ ((p0 < p1) ∨ (p2 < p0))) then (1 : Int32) else (0 : Int32))) (ls : Array Slot), lv_has ls 3 [] → W p l e rmX6_isWithin s m args below meth c s.heap [] 0 0 Q (F0 m 15 ls [.int y_2]) := by
    intro y_2 ey_2 ls hl
    subst ey_2
    exact hret 15 ls _ dX6_isWithin_15 (nb_lit _) rfl
  refine lv_icmp_lt (tgt := 14) hx hb dX6_isWithin_2 (by decide) (fun c_3 => ?_) (fun c_3 => ?_)
  · refine lv_iconst (v := (0 : Int32)) hx hb dX6_isWithin_14 (by decide) ?_
    exact hJ_1 _ (if_neg (fun h => h (Or.inl c_3))).symm ls (lv_sub hl [] rfl)
  · refine lv_iload_n hx hb dX6_isWithin_5 rfl (lv_at hl 0 rfl) ?_
    refine lv_iload_n hx hb dX6_isWithin_6 rfl (lv_at hl 2 rfl) ?_
    refine lv_icmp_gt (tgt := 14) hx hb dX6_isWithin_7 (by decide) (fun c_4 => ?_) (fun c_4 => ?_)
    · refine lv_iconst (v := (0 : Int32)) hx hb dX6_isWithin_14 (by decide) ?_
      exact hJ_1 _ (if_neg (fun h => h (Or.inr c_4))).symm ls (lv_sub hl [] rfl)
    · refine lv_iconst (v := (1 : Int32)) hx hb dX6_isWithin_10 (by decide) ?_
      refine lv_goto (tgt := 15) hx hb dX6_isWithin_11 (by decide) ?_
      exact hJ_1 _ (if_pos (fun h => h.elim c_3 c_4)).symm ls (lv_sub hl [] rfl)
/-! X6_isRow -/
theorem fz_X6_isRow (p0 : Int32) : f_X6_isRow p0 = 0 ∨ f_X6_isRow p0 = 1 := fz_X6_isWithin _ _ _
def rmX6_isRow : Room := { frames := 1, cells := 0, slots := 0, locals := 22 }
set_option maxHeartbeats 4000000 in
set_option maxRecDepth 100000 in
theorem k_X6_isRow (l : Launch) (dC : Nat → ClassId) (dI : Nat → Nat → Nat) (cI cJ : ClassId) (p0 : Int32) : Met l yX6_isRow wsX6_isRow rmX6_isRow (va_Pc [.int p0] (pE (dC, dI) cI cJ [])) (rq (.int (f_X6_isRow p0))) 0 0 nofree := by
  refine ro_of_z (cc := cX6_isRow) (maxL := 1) (by decide) rfl (Nat.le_of_ble_eq_true rfl) ?_
  intro p e s m args below meth c Q ls hx hb hml hown hts hE hP hret hl
  have hK := hE.1
  have hl : lv_has ls 1 [(0, .int p0)] := hl
  refine lv_iload_n hx hb dX6_isRow_0 rfl (lv_at hl 0 rfl) ?_
  refine lv_iconst (v := (0 : Int32)) hx hb dX6_isRow_1 (by decide) ?_
  refine lv_bipush (v := (127 : Int32)) hx hb dX6_isRow_2 (by decide) ?_
  refine ro_S ⟨hx, hb, hml, hown, hts⟩ (k_X6_isWithin l dC dI cI cJ p0 (0 : Int32) (127 : Int32)) (va_cwS 3 hts gX6_isRow_X6_isWithin rfl rfl rfl (by decide +kernel) ⟨Nat.le_of_ble_eq_true rfl, Nat.le_of_ble_eq_true rfl⟩) hE (hP.sub [] rfl) rfl hl.1 rfl (Nat.le_of_ble_eq_true rfl) dX6_isRow_4 ⟨Nat.zero_le _, Nat.zero_le _⟩ ?_
  exact hret 7 ls _ dX6_isRow_7 (fz_X6_isWithin _ _ _) rfl
/-! X6_isPlace -/
theorem fz_X6_isPlace (p0 : Int32) (p1 : Int32) : f_X6_isPlace p0 p1 = 0 ∨ f_X6_isPlace p0 p1 = 1 := nb_lit _
def rmX6_isPlace : Room := { frames := 2, cells := 0, slots := 0, locals := 42 }
set_option maxHeartbeats 4000000 in
set_option maxRecDepth 100000 in
theorem k_X6_isPlace (l : Launch) (dC : Nat → ClassId) (dI : Nat → Nat → Nat) (cI cJ : ClassId) (p0 : Int32) (p1 : Int32) : Met l yX6_isPlace wsX6_isPlace rmX6_isPlace (va_Pc [.int p0, .int p1] (pE (dC, dI) cI cJ [])) (rq (.int (f_X6_isPlace p0 p1))) 0 0 nofree := by
  refine ro_of_z (cc := cX6_isPlace) (maxL := 2) (by decide) rfl (Nat.le_of_ble_eq_true rfl) ?_
  intro p e s m args below meth c Q ls hx hb hml hown hts hE hP hret hl
  have hK := hE.1
  have hl : lv_has ls 2 [(0, .int p0), (1, .int p1)] := hl
  refine lv_iload_n hx hb dX6_isPlace_0 rfl (lv_at hl 0 rfl) ?_
  refine ro_S ⟨hx, hb, hml, hown, hts⟩ (k_X6_isRow l dC dI cI cJ p0) (va_cwS 1 hts gX6_isPlace_X6_isRow rfl rfl rfl (by decide +kernel) ⟨Nat.le_of_ble_eq_true rfl, Nat.le_of_ble_eq_true rfl⟩) hE (hP.sub [] rfl) rfl hl.1 rfl (Nat.le_of_ble_eq_true rfl) dX6_isPlace_1 ⟨Nat.zero_le _, Nat.zero_le _⟩ ?_
  have hJ_1 : ∀ (y_2 : Int32) (ey_2 : y_2 = (if (¬ (((f_X6_isRow p0) = 0) ∨ ((f_X6_isWithin p1 (0 : Int32) p0) = 0))) then (1 : Int32) else (0 : Int32))) (ls : Array Slot), lv_has ls 2 [] → W p l e rmX6_isPlace s m args below meth c s.heap [] 0 0 Q (F0 m 21 ls [.int y_2]) := by
    intro y_2 ey_2 ls hl
    subst ey_2
    exact hret 21 ls _ dX6_isPlace_21 (nb_lit _) rfl
  refine lv_if_eq (tgt := 20) hx hb dX6_isPlace_4 (by decide) (fun c_3 => ?_) (fun c_3 => ?_)
  · refine lv_iconst (v := (0 : Int32)) hx hb dX6_isPlace_20 (by decide) ?_
    exact hJ_1 _ (if_neg (fun h => h (Or.inl c_3))).symm ls (lv_sub hl [] rfl)
  · refine lv_iload_n hx hb dX6_isPlace_7 rfl (lv_at hl 1 rfl) ?_
    refine lv_iconst (v := (0 : Int32)) hx hb dX6_isPlace_8 (by decide) ?_
    refine lv_iload_n hx hb dX6_isPlace_9 rfl (lv_at hl 0 rfl) ?_
    refine ro_S ⟨hx, hb, hml, hown, hts⟩ (k_X6_isWithin l dC dI cI cJ p1 (0 : Int32) p0) (va_cwS 3 hts gX6_isPlace_X6_isWithin rfl rfl rfl (by decide +kernel) ⟨Nat.le_of_ble_eq_true rfl, Nat.le_of_ble_eq_true rfl⟩) hE (hP.sub [] rfl) rfl hl.1 rfl (Nat.le_of_ble_eq_true rfl) dX6_isPlace_10 ⟨Nat.zero_le _, Nat.zero_le _⟩ ?_
    refine lv_if_eq (tgt := 20) hx hb dX6_isPlace_13 (by decide) (fun c_4 => ?_) (fun c_4 => ?_)
    · refine lv_iconst (v := (0 : Int32)) hx hb dX6_isPlace_20 (by decide) ?_
      exact hJ_1 _ (if_neg (fun h => h (Or.inr c_4))).symm ls (lv_sub hl [] rfl)
    · refine lv_iconst (v := (1 : Int32)) hx hb dX6_isPlace_16 (by decide) ?_
      refine lv_goto (tgt := 21) hx hb dX6_isPlace_17 (by decide) ?_
      exact hJ_1 _ (if_pos (fun h => h.elim c_3 c_4)).symm ls (lv_sub hl [] rfl)
/-! J6_bitCount_0f7a4 -/
def rmJ6_bitCount_0f7a4 : Room := { frames := 0, cells := 0, slots := 0, locals := 0 }
set_option maxHeartbeats 4000000 in
set_option maxRecDepth 100000 in
theorem k_J6_bitCount_0f7a4 (l : Launch) (dC : Nat → ClassId) (dI : Nat → Nat → Nat) (cI cJ : ClassId) (p0 : Int32) (r : Int32) (hr : f_J6_bitCount_0f7a4 p0 = some r) : Met l yJ6_bitCount_0f7a4 wsJ6_bitCount_0f7a4 rmJ6_bitCount_0f7a4 (va_Pc [.int p0] (pE (dC, dI) cI cJ [])) (rq (.int r)) 0 0 nofree := by
  refine ro_of_i (cc := cJ6_bitCount_0f7a4) (maxL := 1) (by decide) rfl (Nat.le_of_ble_eq_true rfl) ?_
  intro p e s m args below meth c Q ls hx hb hml hown hts hE hP hret hl
  have hK := hE.1
  have hl : lv_has ls 1 [(0, .int p0)] := hl
  unfold f_J6_bitCount_0f7a4 at hr
  refine lv_iload_n hx hb dJ6_bitCount_0f7a4_0 rfl (lv_at hl 0 rfl) ?_
  refine lv_iload_n hx hb dJ6_bitCount_0f7a4_1 rfl (lv_at hl 0 rfl) ?_
  refine lv_iconst (v := (1 : Int32)) hx hb dJ6_bitCount_0f7a4_2 (by decide) ?_
  refine lv_iushr (v := ((Int32.toUInt32 p0 >>> (Int32.toUInt32 (1 : Int32) &&& Int32.toUInt32 31)).toInt32)) hx hb dJ6_bitCount_0f7a4_3 rfl ?_
  refine lv_ldcw (v := (1431655765 : Int32)) hx hb hown (hts (.constant RJ6 265 (1431655765)) (List.mem_of_getElem? (i := 1) rfl)) dJ6_bitCount_0f7a4_4 ?_
  refine lv_iand hx hb dJ6_bitCount_0f7a4_7 ?_
  refine lv_isub hx hb dJ6_bitCount_0f7a4_8 ?_
  refine lv_topi (fun x_1 ex_1 => ?_)
  have hr := qn_e hr ex_1
  refine lv_istore_n (lv' := [(0, .int x_1)]) hx hb dJ6_bitCount_0f7a4_9 rfl hl (by decide) rfl (fun ls hl => ?_)
  refine lv_iload_n hx hb dJ6_bitCount_0f7a4_10 rfl (lv_at hl 0 rfl) ?_
  refine lv_ldcw (v := (858993459 : Int32)) hx hb hown (hts (.constant RJ6 266 (858993459)) (List.mem_of_getElem? (i := 2) rfl)) dJ6_bitCount_0f7a4_11 ?_
  refine lv_iand hx hb dJ6_bitCount_0f7a4_14 ?_
  refine lv_iload_n hx hb dJ6_bitCount_0f7a4_15 rfl (lv_at hl 0 rfl) ?_
  refine lv_iconst (v := (2 : Int32)) hx hb dJ6_bitCount_0f7a4_16 (by decide) ?_
  refine lv_iushr (v := ((Int32.toUInt32 x_1 >>> (Int32.toUInt32 (2 : Int32) &&& Int32.toUInt32 31)).toInt32)) hx hb dJ6_bitCount_0f7a4_17 rfl ?_
  refine lv_ldcw (v := (858993459 : Int32)) hx hb hown (hts (.constant RJ6 266 (858993459)) (List.mem_of_getElem? (i := 2) rfl)) dJ6_bitCount_0f7a4_18 ?_
  refine lv_iand hx hb dJ6_bitCount_0f7a4_21 ?_
  refine lv_iadd hx hb dJ6_bitCount_0f7a4_22 ?_
  refine lv_topi (fun x_2 ex_2 => ?_)
  have hr := qn_e hr ex_2
  refine lv_istore_n (lv' := [(0, .int x_2)]) hx hb dJ6_bitCount_0f7a4_23 rfl hl (by decide) rfl (fun ls hl => ?_)
  refine lv_iload_n hx hb dJ6_bitCount_0f7a4_24 rfl (lv_at hl 0 rfl) ?_
  refine lv_iload_n hx hb dJ6_bitCount_0f7a4_25 rfl (lv_at hl 0 rfl) ?_
  refine lv_iconst (v := (4 : Int32)) hx hb dJ6_bitCount_0f7a4_26 (by decide) ?_
  refine lv_iushr (v := ((Int32.toUInt32 x_2 >>> (Int32.toUInt32 (4 : Int32) &&& Int32.toUInt32 31)).toInt32)) hx hb dJ6_bitCount_0f7a4_27 rfl ?_
  refine lv_iadd hx hb dJ6_bitCount_0f7a4_28 ?_
  refine lv_ldcw (v := (252645135 : Int32)) hx hb hown (hts (.constant RJ6 267 (252645135)) (List.mem_of_getElem? (i := 3) rfl)) dJ6_bitCount_0f7a4_29 ?_
  refine lv_iand hx hb dJ6_bitCount_0f7a4_32 ?_
  refine lv_topi (fun x_3 ex_3 => ?_)
  have hr := qn_e hr ex_3
  refine lv_istore_n (lv' := [(0, .int x_3)]) hx hb dJ6_bitCount_0f7a4_33 rfl hl (by decide) rfl (fun ls hl => ?_)
  refine lv_iload_n hx hb dJ6_bitCount_0f7a4_34 rfl (lv_at hl 0 rfl) ?_
  refine lv_iload_n hx hb dJ6_bitCount_0f7a4_35 rfl (lv_at hl 0 rfl) ?_
  refine lv_bipush (v := (8 : Int32)) hx hb dJ6_bitCount_0f7a4_36 (by decide) ?_
  refine lv_iushr (v := ((Int32.toUInt32 x_3 >>> (Int32.toUInt32 (8 : Int32) &&& Int32.toUInt32 31)).toInt32)) hx hb dJ6_bitCount_0f7a4_38 rfl ?_
  refine lv_iadd hx hb dJ6_bitCount_0f7a4_39 ?_
  refine lv_topi (fun x_4 ex_4 => ?_)
  have hr := qn_e hr ex_4
  refine lv_istore_n (lv' := [(0, .int x_4)]) hx hb dJ6_bitCount_0f7a4_40 rfl hl (by decide) rfl (fun ls hl => ?_)
  refine lv_iload_n hx hb dJ6_bitCount_0f7a4_41 rfl (lv_at hl 0 rfl) ?_
  refine lv_iload_n hx hb dJ6_bitCount_0f7a4_42 rfl (lv_at hl 0 rfl) ?_
  refine lv_bipush (v := (16 : Int32)) hx hb dJ6_bitCount_0f7a4_43 (by decide) ?_
  refine lv_iushr (v := ((Int32.toUInt32 x_4 >>> (Int32.toUInt32 (16 : Int32) &&& Int32.toUInt32 31)).toInt32)) hx hb dJ6_bitCount_0f7a4_45 rfl ?_
  refine lv_iadd hx hb dJ6_bitCount_0f7a4_46 ?_
  refine lv_topi (fun x_5 ex_5 => ?_)
  have hr := qn_e hr ex_5
  refine lv_istore_n (lv' := [(0, .int x_5)]) hx hb dJ6_bitCount_0f7a4_47 rfl hl (by decide) rfl (fun ls hl => ?_)
  refine lv_iload_n hx hb dJ6_bitCount_0f7a4_48 rfl (lv_at hl 0 rfl) ?_
  refine lv_bipush (v := (63 : Int32)) hx hb dJ6_bitCount_0f7a4_49 (by decide) ?_
  refine lv_iand hx hb dJ6_bitCount_0f7a4_51 ?_
  exact hret 52 ls _ dJ6_bitCount_0f7a4_52 (Option.some.inj hr)
