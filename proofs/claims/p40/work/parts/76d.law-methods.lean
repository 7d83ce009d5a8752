/-! the law's static methods -/
def rmL_cell : Room := { frames := 0, cells := 0, slots := 0, locals := 0 }
set_option maxHeartbeats 4000000 in
set_option maxRecDepth 100000 in
theorem k_L_cell (l : Launch) (dC : Nat → ClassId) (dI : Nat → Nat → Nat) (cI cJ : ClassId) (a_u : Nat) (p1 : Int32) (n_u : Nat) (u : Nat → Int32) (r : Int32) (hr : f_L_cell p1 n_u u = some r) : Met l yL_cell wsL_cell rmL_cell (va_Pc [.ref a_u, .int p1] (pXc a_u n_u u (dC, dI) cI cJ)) (rq (.int r)) 0 0 nofree := by
  refine ro_of_iXc (cc := cL_cell) (maxL := 3) (by decide) rfl (Nat.le_of_ble_eq_true rfl) ?_
  intro p e s m args below meth c Q ls hx hb hml hown hts hE hX hret hl
  have hl : lv_has ls 3 [(0, .ref a_u), (1, .int p1)] := hl
  unfold f_L_cell at hr
  refine lv_ldc (v := (69069 : Int32)) hx hb hown (hts (.constant RL 7 (69069)) (List.mem_of_getElem? (i := 1) rfl)) dL_cell_0 ?_
  refine lv_iload_n hx hb dL_cell_2 rfl (lv_at hl 1 rfl) ?_
  refine lv_aload_n hx hb dL_cell_3 rfl (lv_at hl 0 rfl) ?_
  refine va_slen (A := fun _ => False) hx hb hX (va_XltL hX) (fun z => z) va_S.rf dL_cell_4 ?_
  refine lv_icmp_ge (tgt := 14) hx hb dL_cell_5 (by decide) (fun c_1 => ?_) (fun c_1 => ?_)
  · have hr := ite_p hr c_1
    refine lv_iconst (v := (0 : Int32)) hx hb dL_cell_14 (by decide) ?_
    refine lv_sipush (v := (1009 : Int32)) hx hb dL_cell_15 (by decide) ?_
    refine lv_iload_n hx hb dL_cell_18 rfl (lv_at hl 1 rfl) ?_
    refine lv_imul hx hb dL_cell_19 ?_
    refine lv_iadd hx hb dL_cell_20 ?_
    refine lv_imul hx hb dL_cell_21 ?_
    refine lv_sipush (v := (12345 : Int32)) hx hb dL_cell_22 (by decide) ?_
    refine lv_iadd hx hb dL_cell_25 ?_
    refine lv_topi (fun x_2 ex_2 => ?_)
    have hr := qn_e hr ex_2
    refine lv_istore_n (lv' := [(2, .int x_2), (0, .ref a_u), (1, .int p1)]) hx hb dL_cell_26 rfl hl (by decide) rfl (fun ls hl => ?_)
    refine lv_iload_n hx hb dL_cell_27 rfl (lv_at hl 0 rfl) ?_
    refine lv_iload_n hx hb dL_cell_28 rfl (lv_at hl 0 rfl) ?_
    refine lv_bipush (v := (13 : Int32)) hx hb dL_cell_29 (by decide) ?_
    refine lv_iushr (v := ((Int32.toUInt32 x_2 >>> (Int32.toUInt32 (13 : Int32) &&& Int32.toUInt32 31)).toInt32)) hx hb dL_cell_31 rfl ?_
    refine lv_ixor hx hb dL_cell_32 ?_
    refine lv_ldc (v := (1103515245 : Int32)) hx hb hown (hts (.constant RL 8 (1103515245)) (List.mem_of_getElem? (i := 2) rfl)) dL_cell_33 ?_
    refine lv_imul hx hb dL_cell_35 ?_
    refine lv_topi (fun x_3 ex_3 => ?_)
    have hr := qn_e hr ex_3
    refine lv_istore_n (lv' := [(2, .int x_3), (0, .ref a_u), (1, .int p1)]) hx hb dL_cell_36 rfl hl (by decide) rfl (fun ls hl => ?_)
    refine lv_iload_n hx hb dL_cell_37 rfl (lv_at hl 0 rfl) ?_
    refine lv_iload_n hx hb dL_cell_38 rfl (lv_at hl 0 rfl) ?_
    refine lv_bipush (v := (16 : Int32)) hx hb dL_cell_39 (by decide) ?_
    refine lv_iushr (v := ((Int32.toUInt32 x_3 >>> (Int32.toUInt32 (16 : Int32) &&& Int32.toUInt32 31)).toInt32)) hx hb dL_cell_41 rfl ?_
    refine lv_ixor hx hb dL_cell_42 ?_
    exact hret 43 ls _ dL_cell_43 (Option.some.inj hr)
  · have hr := ite_n hr c_1
    refine lv_aload_n hx hb dL_cell_8 rfl (lv_at hl 0 rfl) ?_
    refine lv_iload_n hx hb dL_cell_9 rfl (lv_at hl 1 rfl) ?_
    obtain ⟨g_4, eg_4, hg_4, hr⟩ := rd_e hr
    refine va_sld (A := fun _ => False) hx hb hX (va_XltL hX) (fun z => z) va_S.rf hg_4 dL_cell_10 ?_
    refine tp_ eg_4 ?_
    refine lv_goto (tgt := 15) hx hb dL_cell_11 (by decide) ?_
    refine lv_sipush (v := (1009 : Int32)) hx hb dL_cell_15 (by decide) ?_
    refine lv_iload_n hx hb dL_cell_18 rfl (lv_at hl 1 rfl) ?_
    refine lv_imul hx hb dL_cell_19 ?_
    refine lv_iadd hx hb dL_cell_20 ?_
    refine lv_imul hx hb dL_cell_21 ?_
    refine lv_sipush (v := (12345 : Int32)) hx hb dL_cell_22 (by decide) ?_
    refine lv_iadd hx hb dL_cell_25 ?_
    refine lv_istore_n (lv' := [(2, .int (((69069 : Int32) * (g_4 + ((1009 : Int32) * p1))) + (12345 : Int32))), (0, .ref a_u), (1, .int p1)]) hx hb dL_cell_26 rfl hl (by decide) rfl (fun ls hl => ?_)
    refine lv_iload_n hx hb dL_cell_27 rfl (lv_at hl 0 rfl) ?_
    refine lv_iload_n hx hb dL_cell_28 rfl (lv_at hl 0 rfl) ?_
    refine lv_bipush (v := (13 : Int32)) hx hb dL_cell_29 (by decide) ?_
    refine lv_iushr (v := ((Int32.toUInt32 (((69069 : Int32) * (g_4 + ((1009 : Int32) * p1))) + (12345 : Int32)) >>> (Int32.toUInt32 (13 : Int32) &&& Int32.toUInt32 31)).toInt32)) hx hb dL_cell_31 rfl ?_
    refine lv_ixor hx hb dL_cell_32 ?_
    refine lv_ldc (v := (1103515245 : Int32)) hx hb hown (hts (.constant RL 8 (1103515245)) (List.mem_of_getElem? (i := 2) rfl)) dL_cell_33 ?_
    refine lv_imul hx hb dL_cell_35 ?_
    refine lv_topi (fun x_5 ex_5 => ?_)
    have hr := qn_e hr ex_5
    refine lv_istore_n (lv' := [(2, .int x_5), (0, .ref a_u), (1, .int p1)]) hx hb dL_cell_36 rfl hl (by decide) rfl (fun ls hl => ?_)
    refine lv_iload_n hx hb dL_cell_37 rfl (lv_at hl 0 rfl) ?_
    refine lv_iload_n hx hb dL_cell_38 rfl (lv_at hl 0 rfl) ?_
    refine lv_bipush (v := (16 : Int32)) hx hb dL_cell_39 (by decide) ?_
    refine lv_iushr (v := ((Int32.toUInt32 x_5 >>> (Int32.toUInt32 (16 : Int32) &&& Int32.toUInt32 31)).toInt32)) hx hb dL_cell_41 rfl ?_
    refine lv_ixor hx hb dL_cell_42 ?_
    exact hret 43 ls _ dL_cell_43 (Option.some.inj hr)
def rmL_puts : Room := { frames := 0, cells := 0, slots := 0, locals := 0 }
set_option maxHeartbeats 4000000 in
set_option maxRecDepth 100000 in
theorem k_L_puts (l : Launch) (dC : Nat → ClassId) (dI : Nat → Nat → Nat) (cI cJ : ClassId) (a_u : Nat) (p1 : Int32) (p2 : Int32) (n_u : Nat) (u : Nat → Int32) (sz : Nat) (r : Int32 × (Nat → Int32)) (hr : f_L_puts p1 p2 n_u u = some r) : Met l yL_puts wsL_puts rmL_puts (va_Pc [.ref a_u, .int p1, .int p2] (pM (dC, dI) cI cJ [(a_u, .inl (cI, n_u, .inl u))] sz)) (qM (some (.int r.1)) (dC, dI) [(a_u, .inl (cI, n_u, .inl r.2))] (va_A [(a_u, .inl (cI, n_u, .inl u))] sz)) 0 0 (va_A [(a_u, .inl (cI, n_u, .inl u))] sz) := by
  refine mu_of (cc := cL_puts) (maxL := 5) (by decide) rfl (Nat.le_of_ble_eq_true rfl) ?_
  intro p e s m args below meth c Q ls A hx hb hml hown hts hE hP hD hA hrt hlocks hret hl
  have hK := hE.1
  have hS : va_S A s.heap s.heap [] := va_S.rf
  have hl : lv_has ls 5 [(0, .ref a_u), (1, .int p1), (2, .int p2)] := hl
  unfold f_L_puts at hr
  obtain ⟨H, hHe⟩ : ∃ H, H = s.heap := ⟨_, rfl⟩
  obtain ⟨locs, hLe⟩ : ∃ locs : List Loc, locs = [] := ⟨_, rfl⟩
  suffices hgo : va_P (dC, dI) vwCl [(a_u, .inl (cI, n_u, .inl u))] H → va_S A s.heap H locs → W p l e rmL_puts s m args below meth c H locs 0 0 Q (F0 m 0 ls []) by
    subst hHe; subst hLe; exact hgo hP hS
  clear hP hS hHe hLe
  intro hP hS
  refine lv_iload_n hx hb dL_puts_0 rfl (lv_at hl 1 rfl) ?_
  refine lv_istore_n (lv' := [(3, .int p1), (0, .ref a_u), (1, .int p1), (2, .int p2)]) hx hb dL_puts_1 rfl hl (by decide) rfl (fun ls hl => ?_)
  refine lv_iload_n hx hb dL_puts_2 rfl (lv_at hl 3 rfl) ?_
  refine lv_bipush (v := (99 : Int32)) hx hb dL_puts_3 (by decide) ?_
  have hJ_1 : ∀ (y_2 : Int32) (ey_2 : y_2 = (if (p2 ≤ (99 : Int32)) then (if (p2 ≤ (9 : Int32)) then (1 : Int32) else (10 : Int32)) else (100 : Int32))) (ls : Array Slot), lv_has ls 5 [(0, .ref a_u), (2, .int p2), (3, .int p1)] → W p l e rmL_puts s m args below meth c H locs 0 0 Q (F0 m 25 ls [.int y_2]) := by
    intro y_2 ey_2 ls hl
    have hr := qn_e hr ey_2
    refine lv_istore (lv' := [(4, .int y_2), (0, .ref a_u), (2, .int p2), (3, .int p1)]) hx hb dL_puts_25 hl (by decide) rfl (fun ls hl => ?_)
    have hL27 : ∀ (v2_27 : Int32) (k_27 : Int32 → (Nat → Int32) → Option (Int32 × (Nat → Int32))) (hk : ∀ (x3_27 : Int32) (xc_u_27 : Nat → Int32) (ls : Array Slot), lv_has ls 5 [(3, .int x3_27)] → ∀ (H : Heap) (locs : List Loc), va_P (dC, dI) vwCl [(a_u, .inl (cI, n_u, .inl xc_u_27))] H → va_S A s.heap H locs →  k_27 x3_27 xc_u_27 = some r → W p l e rmL_puts s m args below meth c H locs 0 0 Q (F0 m 58 ls [])) (fuel : Nat) (v3_27 : Int32) (v4_27 : Int32) (u_27 : Nat → Int32) (ls : Array Slot), lv_has ls 5 [(0, .ref a_u), (2, .int v2_27), (3, .int v3_27), (4, .int v4_27)] → ∀ (H : Heap) (locs : List Loc), va_P (dC, dI) vwCl [(a_u, .inl (cI, n_u, .inl u_27))] H → va_S A s.heap H locs → f_L_puts_L27 k_27 v2_27 n_u fuel v3_27 v4_27 u_27 = some r → W p l e rmL_puts s m args below meth c H locs 0 0 Q (F0 m 27 ls []) := by
      intro v2_27 k_27 hk fuel
      induction fuel with
      | zero =>
        intro v3_27 v4_27 u_27 ls hl H locs hP hS hr
        rw [f_L_puts_L27_z] at hr
        cases hr
      | succ fuel ih =>
        intro v3_27 v4_27 u_27 ls hl H locs hP hS hr
        rw [f_L_puts_L27_s] at hr
        refine lv_iload hx hb dL_puts_27 (lv_at hl 3 rfl) ?_
        refine lv_if_le (tgt := 58) hx hb dL_puts_29 (by decide) (fun c_3 => ?_) (fun c_3 => ?_)
        · have hr := ite_p hr c_3
          exact hk v3_27 u_27 ls (lv_sub hl [2] rfl) H locs hP hS hr
        · have hr := ite_n hr c_3
          refine lv_aload_n hx hb dL_puts_32 rfl (lv_at hl 0 rfl) ?_
          refine lv_iload_n hx hb dL_puts_33 rfl (lv_at hl 2 rfl) ?_
          refine lv_bipush (v := (48 : Int32)) hx hb dL_puts_34 (by decide) ?_
          refine lv_iload_n hx hb dL_puts_36 rfl (lv_at hl 1 rfl) ?_
          refine lv_iload hx hb dL_puts_37 (lv_at hl 3 rfl) ?_
          obtain ⟨d_4, ed_4, hd_4, hr⟩ := dv_e hr
          refine lv_idiv hx hb dL_puts_39 hd_4 ?_
          refine tp_ ed_4 ?_
          refine lv_bipush (v := (10 : Int32)) hx hb dL_puts_40 (by decide) ?_
          obtain ⟨d_5, ed_5, hd_5, hr⟩ := md_e hr
          refine lv_irem hx hb dL_puts_42 hd_5 ?_
          refine tp_ ed_5 ?_
          refine lv_iadd hx hb dL_puts_43 ?_
          obtain ⟨w_6, ew_6, hw_6, hr⟩ := wr_e hr
          refine va_iast hx hb hK hP (hD.fst rfl) hS 0 0 rfl rfl hw_6 dL_puts_44 (fun H locs hP _ hS => ?_)
          rw [← ew_6] at hP
          have hP : va_P (dC, dI) vwCl [(a_u, .inl (cI, n_u, .inl w_6))] H := hP
          refine lv_iinc (v := (v3_27 + (1 : Int32))) (lv' := [(3, .int (v3_27 + (1 : Int32))), (0, .ref a_u), (2, .int v2_27), (4, .int v4_27)]) hx hb dL_puts_45 hl (k := 2) rfl (congrArg (fun z => v3_27 + z) (by decide)) (by decide) rfl (fun ls hl => ?_)
          refine lv_iload hx hb dL_puts_48 (lv_at hl 3 rfl) ?_
          refine lv_bipush (v := (10 : Int32)) hx hb dL_puts_50 (by decide) ?_
          obtain ⟨d_7, ed_7, hd_7, hr⟩ := dv_e hr
          refine lv_idiv hx hb dL_puts_52 hd_7 ?_
          refine tp_ ed_7 ?_
          refine lv_istore (lv' := [(4, .int d_7), (3, .int (v3_27 + (1 : Int32))), (0, .ref a_u), (2, .int v2_27)]) hx hb dL_puts_53 hl (by decide) rfl (fun ls hl => ?_)
          refine lv_goto (tgt := 27) hx hb dL_puts_55 (by decide) ?_
          exact ih (v3_27 + (1 : Int32)) d_7 w_6 ls (lv_sub hl [2, 3, 1, 0] rfl) H locs hP hS hr
    refine hL27 p2 _ (fun x3_27 xc_u_27 ls hl H locs hP hS hr => ?_) 5000 p1 y_2 u ls (lv_sub hl [1, 2, 3, 0] rfl) H locs hP hS hr
    refine lv_iload_n hx hb dL_puts_58 rfl (lv_at hl 0 rfl) ?_
    obtain rfl := Option.some.inj hr
    exact hret H locs _ hP hS (fun Qc free hq hf => W.iret hx hb hrt hq hf dL_puts_59 hlocks)
  refine lv_icmp_le (tgt := 13) hx hb dL_puts_5 (by decide) (fun c_8 => ?_) (fun c_8 => ?_)
  · refine lv_iload_n hx hb dL_puts_13 rfl (lv_at hl 3 rfl) ?_
    refine lv_bipush (v := (9 : Int32)) hx hb dL_puts_14 (by decide) ?_
    refine lv_icmp_le (tgt := 24) hx hb dL_puts_16 (by decide) (fun c_9 => ?_) (fun c_9 => ?_)
    · refine lv_iconst (v := (1 : Int32)) hx hb dL_puts_24 (by decide) ?_
      exact hJ_1 _ ((if_pos c_8).trans (if_pos c_9)).symm ls (lv_sub hl [1, 3, 0] rfl)
    · refine lv_bipush (v := (10 : Int32)) hx hb dL_puts_19 (by decide) ?_
      refine lv_goto (tgt := 25) hx hb dL_puts_21 (by decide) ?_
      exact hJ_1 _ ((if_pos c_8).trans (if_neg c_9)).symm ls (lv_sub hl [1, 3, 0] rfl)
  · refine lv_bipush (v := (100 : Int32)) hx hb dL_puts_8 (by decide) ?_
    refine lv_goto (tgt := 25) hx hb dL_puts_10 (by decide) ?_
    exact hJ_1 _ (if_neg c_8).symm ls (lv_sub hl [1, 3, 0] rfl)
def rmL_areSame : Room := { frames := 0, cells := 0, slots := 0, locals := 0 }
set_option maxHeartbeats 4000000 in
set_option maxRecDepth 100000 in
theorem k_L_areSame (l : Launch) (dC : Nat → ClassId) (dI : Nat → Nat → Nat) (cI cJ : ClassId) (a_u : Nat) (a_v : Nat) (n_u : Nat) (n_v : Nat) (u : Nat → Int32) (v : Nat → Int32) (r : Int32) (hr : f_L_areSame n_u n_v u v = some r) : Met l yL_areSame wsL_areSame rmL_areSame (va_Pc [.ref a_u, .ref a_v] (pE (dC, dI) cI cJ [(a_u, .inl (cI, n_u, .inl u)), (a_v, .inl (cI, n_v, .inl v))])) (rq (.int r)) 0 0 nofree := by
  refine ro_of_z (cc := cL_areSame) (maxL := 4) (by decide) rfl (Nat.le_of_ble_eq_true rfl) ?_
  intro p e s m args below meth c Q ls hx hb hml hown hts hE hP hret hl
  have hK := hE.1
  have hl : lv_has ls 4 [(0, .ref a_u), (1, .ref a_v)] := hl
  unfold f_L_areSame at hr
  refine lv_iconst (v := (1 : Int32)) hx hb dL_areSame_0 (by decide) ?_
  refine lv_istore_n (lv' := [(2, .int (1 : Int32)), (0, .ref a_u), (1, .ref a_v)]) hx hb dL_areSame_1 rfl hl (by decide) rfl (fun ls hl => ?_)
  refine lv_iconst (v := (0 : Int32)) hx hb dL_areSame_2 (by decide) ?_
  refine lv_istore_n (lv' := [(3, .int (0 : Int32)), (2, .int (1 : Int32)), (0, .ref a_u), (1, .ref a_v)]) hx hb dL_areSame_3 rfl hl (by decide) rfl (fun ls hl => ?_)
  have hL4 : ∀  (k_4 : Int32 → Option (Int32)) (hk : ∀ (x2_4 : Int32) (ls : Array Slot), lv_has ls 4 [(2, .int x2_4)] → k_4 x2_4 = some r → W p l e rmL_areSame s m args below meth c s.heap [] 0 0 Q (F0 m 33 ls [])) (fuel : Nat) (v2_4 : Int32) (v3_4 : Int32) (ls : Array Slot), lv_has ls 4 [(0, .ref a_u), (1, .ref a_v), (2, .int v2_4), (3, .int v3_4)] → f_L_areSame_L4 k_4 n_u n_v u v fuel v2_4 v3_4 = some r → W p l e rmL_areSame s m args below meth c s.heap [] 0 0 Q (F0 m 4 ls []) := by
    intro k_4 hk fuel
    induction fuel with
    | zero =>
      intro v2_4 v3_4 ls hl hr
      rw [f_L_areSame_L4_z] at hr
      cases hr
    | succ fuel ih =>
      intro v2_4 v3_4 ls hl hr
      rw [f_L_areSame_L4_s] at hr
      refine lv_iload_n hx hb dL_areSame_4 rfl (lv_at hl 3 rfl) ?_
      refine lv_aload_n hx hb dL_areSame_5 rfl (lv_at hl 0 rfl) ?_
      refine va_alen (v := (Int32.ofNat n_u)) hx hb hK hP 0 0 rfl rfl rfl dL_areSame_6 ?_
      refine lv_icmp_ge (tgt := 33) hx hb dL_areSame_7 (by decide) (fun c_1 => ?_) (fun c_1 => ?_)
      · have hr := ite_p hr c_1
        exact hk v2_4 ls (lv_sub hl [2] rfl) hr
      · have hr := ite_n hr c_1
        refine lv_iload_n hx hb dL_areSame_10 rfl (lv_at hl 2 rfl) ?_
        refine lv_aload_n hx hb dL_areSame_11 rfl (lv_at hl 0 rfl) ?_
        refine lv_iload_n hx hb dL_areSame_12 rfl (lv_at hl 3 rfl) ?_
        obtain ⟨g_2, eg_2, hg_2, hr⟩ := rd_e hr
        refine va_iald hx hb hK hP 0 0 rfl rfl hg_2 dL_areSame_13 ?_
        refine tp_ eg_2 ?_
        refine lv_aload_n hx hb dL_areSame_14 rfl (lv_at hl 1 rfl) ?_
        refine lv_iload_n hx hb dL_areSame_15 rfl (lv_at hl 3 rfl) ?_
        obtain ⟨g_3, eg_3, hg_3, hr⟩ := rd_e hr
        refine va_iald hx hb hK hP 1 0 rfl rfl hg_3 dL_areSame_16 ?_
        refine tp_ eg_3 ?_
        have hJ_4 : ∀ (y_5 : Int32) (ey_5 : y_5 = (if (g_2 = g_3) then (1 : Int32) else (0 : Int32))) (ls : Array Slot), lv_has ls 4 [(0, .ref a_u), (1, .ref a_v), (3, .int v3_4)] → W p l e rmL_areSame s m args below meth c s.heap [] 0 0 Q (F0 m 25 ls [.int y_5, .int v2_4]) := by
          intro y_5 ey_5 ls hl
          subst ey_5
          refine lv_iand hx hb dL_areSame_25 ?_
          refine lv_istore_n (lv' := [(2, .int (v2_4 &&& (if (g_2 = g_3) then (1 : Int32) else (0 : Int32)))), (0, .ref a_u), (1, .ref a_v), (3, .int v3_4)]) hx hb dL_areSame_26 rfl hl (by decide) rfl (fun ls hl => ?_)
          refine lv_iinc (v := (v3_4 + (1 : Int32))) (lv' := [(3, .int (v3_4 + (1 : Int32))), (2, .int (v2_4 &&& (if (g_2 = g_3) then (1 : Int32) else (0 : Int32)))), (0, .ref a_u), (1, .ref a_v)]) hx hb dL_areSame_27 hl (k := 3) rfl (congrArg (fun z => v3_4 + z) (by decide)) (by decide) rfl (fun ls hl => ?_)
          refine lv_goto (tgt := 4) hx hb dL_areSame_30 (by decide) ?_
          exact ih (v2_4 &&& (if (g_2 = g_3) then (1 : Int32) else (0 : Int32))) (v3_4 + (1 : Int32)) ls (lv_sub hl [2, 3, 1, 0] rfl) hr
        refine lv_icmp_ne (tgt := 24) hx hb dL_areSame_17 (by decide) (fun c_6 => ?_) (fun c_6 => ?_)
        · refine lv_iconst (v := (0 : Int32)) hx hb dL_areSame_24 (by decide) ?_
          exact hJ_4 _ (if_neg c_6).symm ls (lv_sub hl [0, 1, 3] rfl)
        · refine lv_iconst (v := (1 : Int32)) hx hb dL_areSame_20 (by decide) ?_
          refine lv_goto (tgt := 25) hx hb dL_areSame_21 (by decide) ?_
          exact hJ_4 _ (if_pos c_6).symm ls (lv_sub hl [0, 1, 3] rfl)
  refine hL4  _ (fun x2_4 ls hl hr => ?_) 5000 (1 : Int32) (0 : Int32) ls (lv_sub hl [2, 3, 1, 0] rfl) hr
  refine lv_iload_n hx hb dL_areSame_33 rfl (lv_at hl 0 rfl) ?_
  obtain ⟨hz_7, hr⟩ := bz_e hr
  exact hret 34 ls _ dL_areSame_34 hz_7 (Option.some.inj hr)
def rmL_state : Room := { frames := 7, cells := 1, slots := 20, locals := 163 }
set_option maxHeartbeats 4000000 in
set_option maxRecDepth 100000 in
theorem k_L_state (l : Launch) (dC : Nat → ClassId) (dI : Nat → Nat → Nat) (cI cJ : ClassId) (a_b : Nat) (a_b_triangle : Nat) (a_b_now : Nat) (a_b_kept : Nat) (a_b_trial : Nat) (a_b_reader : Nat) (a_b_tapes : Nat) (a_b_triangle_halves : Nat) (a_b_now_marks : Nat) (a_b_now_seen : Nat) (a_b_now_events : Nat) (a_b_now_book : Nat) (a_b_now_marks_numbers : Nat) (b_hasImage : Int32) (b_triangle_halves : Nat → Int32) (b_now_p : Int32) (b_now_e : Int32) (b_now_modulus : Int32) (b_now_windowRow : Int32) (b_now_windowPlace : Int32) (b_now_marks_size : Int32) (b_now_marks_numbers : Nat → Int32) (sz : Nat) (r : Nat → Int32) (hr : f_L_state b_triangle_halves b_now_marks_numbers b_now_marks_size b_now_p b_now_e b_now_modulus b_now_windowRow b_now_windowPlace = some r) : Met l yL_state wsL_state rmL_state (va_Pc [.ref a_b] (pM (dC, dI) cI cJ [(a_b, .inr (5, [.ref a_b_triangle, .ref a_b_now, .ref a_b_kept, .ref a_b_trial, .ref a_b_reader, .ref a_b_tapes, .int b_hasImage])), (a_b_triangle, .inr (4, [.ref a_b_triangle_halves])), (a_b_triangle_halves, .inl (cI, 4160, .inl b_triangle_halves)), (a_b_now, .inr (2, [.ref a_b_triangle, .ref a_b_now_marks, .ref a_b_now_seen, .ref a_b_now_events, .ref a_b_now_book, .int b_now_p, .int b_now_e, .int b_now_modulus, .int b_now_windowRow, .int b_now_windowPlace])), (a_b_now_marks, .inr (0, [.ref a_b_now_marks_numbers, .int b_now_marks_size])), (a_b_now_marks_numbers, .inl (cI, 18, .inl b_now_marks_numbers))] sz)) (qR (dC, dI) (fun a => [(a_b, .inr (5, [.ref a_b_triangle, .ref a_b_now, .ref a_b_kept, .ref a_b_trial, .ref a_b_reader, .ref a_b_tapes, .int b_hasImage])), (a_b_triangle, .inr (4, [.ref a_b_triangle_halves])), (a_b_triangle_halves, .inl (cI, 4160, .inl b_triangle_halves)), (a_b_now, .inr (2, [.ref a_b_triangle, .ref a_b_now_marks, .ref a_b_now_seen, .ref a_b_now_events, .ref a_b_now_book, .int b_now_p, .int b_now_e, .int b_now_modulus, .int b_now_windowRow, .int b_now_windowPlace])), (a_b_now_marks, .inr (0, [.ref a_b_now_marks_numbers, .int b_now_marks_size])), (a_b_now_marks_numbers, .inl (cI, 18, .inl b_now_marks_numbers))] ++ [(a, .inl (cI, 20, .inl r))]) (va_A [(a_b, .inr (5, [.ref a_b_triangle, .ref a_b_now, .ref a_b_kept, .ref a_b_trial, .ref a_b_reader, .ref a_b_tapes, .int b_hasImage])), (a_b_triangle, .inr (4, [.ref a_b_triangle_halves])), (a_b_triangle_halves, .inl (cI, 4160, .inl b_triangle_halves)), (a_b_now, .inr (2, [.ref a_b_triangle, .ref a_b_now_marks, .ref a_b_now_seen, .ref a_b_now_events, .ref a_b_now_book, .int b_now_p, .int b_now_e, .int b_now_modulus, .int b_now_windowRow, .int b_now_windowPlace])), (a_b_now_marks, .inr (0, [.ref a_b_now_marks_numbers, .int b_now_marks_size])), (a_b_now_marks_numbers, .inl (cI, 18, .inl b_now_marks_numbers))] sz)) 1 20 (va_A [(a_b, .inr (5, [.ref a_b_triangle, .ref a_b_now, .ref a_b_kept, .ref a_b_trial, .ref a_b_reader, .ref a_b_tapes, .int b_hasImage])), (a_b_triangle, .inr (4, [.ref a_b_triangle_halves])), (a_b_triangle_halves, .inl (cI, 4160, .inl b_triangle_halves)), (a_b_now, .inr (2, [.ref a_b_triangle, .ref a_b_now_marks, .ref a_b_now_seen, .ref a_b_now_events, .ref a_b_now_book, .int b_now_p, .int b_now_e, .int b_now_modulus, .int b_now_windowRow, .int b_now_windowPlace])), (a_b_now_marks, .inr (0, [.ref a_b_now_marks_numbers, .int b_now_marks_size])), (a_b_now_marks_numbers, .inl (cI, 18, .inl b_now_marks_numbers))] sz) := by
  refine nr_of (cc := cL_state) (maxL := 3) (x := fun a => (a, .inl (cI, 20, .inl r))) (by decide) rfl (Nat.le_of_ble_eq_true rfl) ?_
  intro p e s m args below meth c Q ls A hx hb hml hown hts hE hP hD hA hrt hlocks hret hl
  have hK := hE.1
  have hS : va_S A s.heap s.heap [] := va_S.rf
  have hl : lv_has ls 3 [(0, .ref a_b)] := hl
  unfold f_L_state at hr
  obtain ⟨H, hHe⟩ : ∃ H, H = s.heap := ⟨_, rfl⟩
  obtain ⟨locs, hLe⟩ : ∃ locs : List Loc, locs = [] := ⟨_, rfl⟩
  suffices hgo : va_P (dC, dI) vwCl [(a_b, .inr (5, [.ref a_b_triangle, .ref a_b_now, .ref a_b_kept, .ref a_b_trial, .ref a_b_reader, .ref a_b_tapes, .int b_hasImage])), (a_b_triangle, .inr (4, [.ref a_b_triangle_halves])), (a_b_triangle_halves, .inl (cI, 4160, .inl b_triangle_halves)), (a_b_now, .inr (2, [.ref a_b_triangle, .ref a_b_now_marks, .ref a_b_now_seen, .ref a_b_now_events, .ref a_b_now_book, .int b_now_p, .int b_now_e, .int b_now_modulus, .int b_now_windowRow, .int b_now_windowPlace])), (a_b_now_marks, .inr (0, [.ref a_b_now_marks_numbers, .int b_now_marks_size])), (a_b_now_marks_numbers, .inl (cI, 18, .inl b_now_marks_numbers))] H → va_S A s.heap H locs → W p l e rmL_state s m args below meth c H locs 0 0 Q (F0 m 0 ls []) by
    subst hHe; subst hLe; exact hgo hP hS
  clear hP hS hHe hLe
  intro hP hS
  refine lv_bipush (v := (20 : Int32)) hx hb dL_state_0 (by decide) ?_
  refine va_newa (atype := .int) (a0 := (20, .inl (fun _ => (0 : Int32)))) (N' := 20) hx hb (hts (.arrayClass .int) (List.mem_of_getElem? (i := 1) rfl)) rfl hK hP hD hS hA (fun _ => rfl) (by decide) (by decide) (Nat.le_of_ble_eq_true rfl) (Nat.le_of_ble_eq_true rfl) (Nat.le_of_ble_eq_true rfl) dL_state_2 (fun a_r cA H hK2 hP hD hS => ?_)
  have hcA := arr_int hK2
  subst hcA
  have hP : va_P (dC, dI) vwCl [(a_b, .inr (5, [.ref a_b_triangle, .ref a_b_now, .ref a_b_kept, .ref a_b_trial, .ref a_b_reader, .ref a_b_tapes, .int b_hasImage])), (a_b_triangle, .inr (4, [.ref a_b_triangle_halves])), (a_b_triangle_halves, .inl (cI, 4160, .inl b_triangle_halves)), (a_b_now, .inr (2, [.ref a_b_triangle, .ref a_b_now_marks, .ref a_b_now_seen, .ref a_b_now_events, .ref a_b_now_book, .int b_now_p, .int b_now_e, .int b_now_modulus, .int b_now_windowRow, .int b_now_windowPlace])), (a_b_now_marks, .inr (0, [.ref a_b_now_marks_numbers, .int b_now_marks_size])), (a_b_now_marks_numbers, .inl (cI, 18, .inl b_now_marks_numbers)), (a_r, .inl (cI, 20, .inl (fun _ => (0 : Int32))))] H := hP
  have hD : va_D A [(a_b, .inr (5, [.ref a_b_triangle, .ref a_b_now, .ref a_b_kept, .ref a_b_trial, .ref a_b_reader, .ref a_b_tapes, .int b_hasImage])), (a_b_triangle, .inr (4, [.ref a_b_triangle_halves])), (a_b_triangle_halves, .inl (cI, 4160, .inl b_triangle_halves)), (a_b_now, .inr (2, [.ref a_b_triangle, .ref a_b_now_marks, .ref a_b_now_seen, .ref a_b_now_events, .ref a_b_now_book, .int b_now_p, .int b_now_e, .int b_now_modulus, .int b_now_windowRow, .int b_now_windowPlace])), (a_b_now_marks, .inr (0, [.ref a_b_now_marks_numbers, .int b_now_marks_size])), (a_b_now_marks_numbers, .inl (cI, 18, .inl b_now_marks_numbers)), (a_r, .inl (cI, 20, .inl (fun _ => (0 : Int32))))] := hD.fst rfl
  refine W.widen (k := 1) (n := 20) (by omega) (by omega) ?_
  refine lv_astore_n (lv' := [(1, .ref a_r), (0, .ref a_b)]) hx hb dL_state_4 rfl hl (by decide) rfl (fun ls hl => ?_)
  refine lv_iconst (v := (0 : Int32)) hx hb dL_state_5 (by decide) ?_
  refine lv_istore_n (lv' := [(2, .int (0 : Int32)), (1, .ref a_r), (0, .ref a_b)]) hx hb dL_state_6 rfl hl (by decide) rfl (fun ls hl => ?_)
  have hL7 : ∀  (k_7 : (Nat → Int32) → Option ((Nat → Int32))) (hk : ∀ (xc_r_7 : Nat → Int32) (ls : Array Slot), lv_has ls 3 [(0, .ref a_b), (1, .ref a_r)] → ∀ (H : Heap) (locs : List Loc), va_P (dC, dI) vwCl [(a_b, .inr (5, [.ref a_b_triangle, .ref a_b_now, .ref a_b_kept, .ref a_b_trial, .ref a_b_reader, .ref a_b_tapes, .int b_hasImage])), (a_b_triangle, .inr (4, [.ref a_b_triangle_halves])), (a_b_triangle_halves, .inl (cI, 4160, .inl b_triangle_halves)), (a_b_now, .inr (2, [.ref a_b_triangle, .ref a_b_now_marks, .ref a_b_now_seen, .ref a_b_now_events, .ref a_b_now_book, .int b_now_p, .int b_now_e, .int b_now_modulus, .int b_now_windowRow, .int b_now_windowPlace])), (a_b_now_marks, .inr (0, [.ref a_b_now_marks_numbers, .int b_now_marks_size])), (a_b_now_marks_numbers, .inl (cI, 18, .inl b_now_marks_numbers)), (a_r, .inl (cI, 20, .inl xc_r_7))] H → va_S A s.heap H locs →  k_7 xc_r_7 = some r → W p l e rmL_state s m args below meth c H locs 1 20 Q (F0 m 27 ls [])) (fuel : Nat) (v2_7 : Int32) (r_7 : Nat → Int32) (ls : Array Slot), lv_has ls 3 [(0, .ref a_b), (1, .ref a_r), (2, .int v2_7)] → ∀ (H : Heap) (locs : List Loc), va_P (dC, dI) vwCl [(a_b, .inr (5, [.ref a_b_triangle, .ref a_b_now, .ref a_b_kept, .ref a_b_trial, .ref a_b_reader, .ref a_b_tapes, .int b_hasImage])), (a_b_triangle, .inr (4, [.ref a_b_triangle_halves])), (a_b_triangle_halves, .inl (cI, 4160, .inl b_triangle_halves)), (a_b_now, .inr (2, [.ref a_b_triangle, .ref a_b_now_marks, .ref a_b_now_seen, .ref a_b_now_events, .ref a_b_now_book, .int b_now_p, .int b_now_e, .int b_now_modulus, .int b_now_windowRow, .int b_now_windowPlace])), (a_b_now_marks, .inr (0, [.ref a_b_now_marks_numbers, .int b_now_marks_size])), (a_b_now_marks_numbers, .inl (cI, 18, .inl b_now_marks_numbers)), (a_r, .inl (cI, 20, .inl r_7))] H → va_S A s.heap H locs → f_L_state_L7 k_7 b_triangle_halves b_now_marks_numbers b_now_marks_size b_now_p b_now_e b_now_modulus b_now_windowRow b_now_windowPlace fuel v2_7 r_7 = some r → W p l e rmL_state s m args below meth c H locs 1 20 Q (F0 m 7 ls []) := by
    intro k_7 hk fuel
    induction fuel with
    | zero =>
      intro v2_7 r_7 ls hl H locs hP hS hr
      rw [f_L_state_L7_z] at hr
      cases hr
    | succ fuel ih =>
      intro v2_7 r_7 ls hl H locs hP hS hr
      rw [f_L_state_L7_s] at hr
      refine lv_iload_n hx hb dL_state_7 rfl (lv_at hl 2 rfl) ?_
      refine lv_bipush (v := (6 : Int32)) hx hb dL_state_8 (by decide) ?_
      refine lv_icmp_ge (tgt := 27) hx hb dL_state_10 (by decide) (fun c_1 => ?_) (fun c_1 => ?_)
      · have hr := ite_p hr c_1
        exact hk r_7 ls (lv_sub hl [0, 1] rfl) H locs hP hS hr
      · have hr := ite_n hr c_1
        refine lv_aload_n hx hb dL_state_13 rfl (lv_at hl 1 rfl) ?_
        refine lv_iload_n hx hb dL_state_14 rfl (lv_at hl 2 rfl) ?_
        refine lv_aload_n hx hb dL_state_15 rfl (lv_at hl 0 rfl) ?_
        refine lv_iload_n hx hb dL_state_16 rfl (lv_at hl 2 rfl) ?_
        obtain ⟨u_2, hu_2, hr⟩ := bd_e hr
        refine ro_V ⟨hx, hb, hml, hown, hts⟩ (k_X6_told l dC dI cI cJ a_b a_b_triangle a_b_now a_b_kept a_b_trial a_b_reader a_b_tapes a_b_triangle_halves a_b_now_marks a_b_now_seen a_b_now_events a_b_now_book a_b_now_marks_numbers v2_7 b_hasImage b_triangle_halves b_now_p b_now_e b_now_modulus b_now_windowRow b_now_windowPlace b_now_marks_size b_now_marks_numbers u_2 hu_2) (cwV 1 hts gL_state_X6_told rfl rfl rfl (by decide +kernel) ⟨Nat.le_of_ble_eq_true rfl, Nat.le_of_ble_eq_true rfl⟩) hE hP 0 rfl rfl rfl (hP.sub [0, 1, 2, 3, 4, 5] rfl) rfl hl.1 rfl (Nat.le_of_ble_eq_true rfl) dL_state_17 ⟨Nat.le_of_ble_eq_true rfl, Nat.le_of_ble_eq_true rfl⟩ ?_
        obtain ⟨w_3, ew_3, hw_3, hr⟩ := wr_e hr
        refine va_iast hx hb hK hP (hD.fst rfl) hS 6 0 rfl rfl hw_3 dL_state_20 (fun H locs hP _ hS => ?_)
        rw [← ew_3] at hP
        have hP : va_P (dC, dI) vwCl [(a_b, .inr (5, [.ref a_b_triangle, .ref a_b_now, .ref a_b_kept, .ref a_b_trial, .ref a_b_reader, .ref a_b_tapes, .int b_hasImage])), (a_b_triangle, .inr (4, [.ref a_b_triangle_halves])), (a_b_triangle_halves, .inl (cI, 4160, .inl b_triangle_halves)), (a_b_now, .inr (2, [.ref a_b_triangle, .ref a_b_now_marks, .ref a_b_now_seen, .ref a_b_now_events, .ref a_b_now_book, .int b_now_p, .int b_now_e, .int b_now_modulus, .int b_now_windowRow, .int b_now_windowPlace])), (a_b_now_marks, .inr (0, [.ref a_b_now_marks_numbers, .int b_now_marks_size])), (a_b_now_marks_numbers, .inl (cI, 18, .inl b_now_marks_numbers)), (a_r, .inl (cI, 20, .inl w_3))] H := hP
        refine lv_iinc (v := (v2_7 + (1 : Int32))) (lv' := [(2, .int (v2_7 + (1 : Int32))), (0, .ref a_b), (1, .ref a_r)]) hx hb dL_state_21 hl (k := 2) rfl (congrArg (fun z => v2_7 + z) (by decide)) (by decide) rfl (fun ls hl => ?_)
        refine lv_goto (tgt := 7) hx hb dL_state_24 (by decide) ?_
        exact ih (v2_7 + (1 : Int32)) w_3 ls (lv_sub hl [1, 2, 0] rfl) H locs hP hS hr
  refine hL7  _ (fun xc_r_7 ls hl H locs hP hS hr => ?_) 5000 (0 : Int32) (fun _ => (0 : Int32)) ls (lv_sub hl [2, 1, 0] rfl) H locs hP hS hr
  refine lv_iconst (v := (0 : Int32)) hx hb dL_state_27 (by decide) ?_
  refine lv_istore_n (lv' := [(2, .int (0 : Int32)), (0, .ref a_b), (1, .ref a_r)]) hx hb dL_state_28 rfl hl (by decide) rfl (fun ls hl => ?_)
  have hL29 : ∀  (k_29 : (Nat → Int32) → Option ((Nat → Int32))) (hk : ∀ (xc_r_29 : Nat → Int32) (ls : Array Slot), lv_has ls 3 [(1, .ref a_r)] → ∀ (H : Heap) (locs : List Loc), va_P (dC, dI) vwCl [(a_b, .inr (5, [.ref a_b_triangle, .ref a_b_now, .ref a_b_kept, .ref a_b_trial, .ref a_b_reader, .ref a_b_tapes, .int b_hasImage])), (a_b_triangle, .inr (4, [.ref a_b_triangle_halves])), (a_b_triangle_halves, .inl (cI, 4160, .inl b_triangle_halves)), (a_b_now, .inr (2, [.ref a_b_triangle, .ref a_b_now_marks, .ref a_b_now_seen, .ref a_b_now_events, .ref a_b_now_book, .int b_now_p, .int b_now_e, .int b_now_modulus, .int b_now_windowRow, .int b_now_windowPlace])), (a_b_now_marks, .inr (0, [.ref a_b_now_marks_numbers, .int b_now_marks_size])), (a_b_now_marks_numbers, .inl (cI, 18, .inl b_now_marks_numbers)), (a_r, .inl (cI, 20, .inl xc_r_29))] H → va_S A s.heap H locs →  k_29 xc_r_29 = some r → W p l e rmL_state s m args below meth c H locs 1 20 Q (F0 m 76 ls [])) (fuel : Nat) (v2_29 : Int32) (r_29 : Nat → Int32) (ls : Array Slot), lv_has ls 3 [(0, .ref a_b), (1, .ref a_r), (2, .int v2_29)] → ∀ (H : Heap) (locs : List Loc), va_P (dC, dI) vwCl [(a_b, .inr (5, [.ref a_b_triangle, .ref a_b_now, .ref a_b_kept, .ref a_b_trial, .ref a_b_reader, .ref a_b_tapes, .int b_hasImage])), (a_b_triangle, .inr (4, [.ref a_b_triangle_halves])), (a_b_triangle_halves, .inl (cI, 4160, .inl b_triangle_halves)), (a_b_now, .inr (2, [.ref a_b_triangle, .ref a_b_now_marks, .ref a_b_now_seen, .ref a_b_now_events, .ref a_b_now_book, .int b_now_p, .int b_now_e, .int b_now_modulus, .int b_now_windowRow, .int b_now_windowPlace])), (a_b_now_marks, .inr (0, [.ref a_b_now_marks_numbers, .int b_now_marks_size])), (a_b_now_marks_numbers, .inl (cI, 18, .inl b_now_marks_numbers)), (a_r, .inl (cI, 20, .inl r_29))] H → va_S A s.heap H locs → f_L_state_L29 k_29 b_triangle_halves b_now_marks_numbers b_now_marks_size b_now_p b_now_e b_now_modulus b_now_windowRow b_now_windowPlace fuel v2_29 r_29 = some r → W p l e rmL_state s m args below meth c H locs 1 20 Q (F0 m 29 ls []) := by
    intro k_29 hk fuel
    induction fuel with
    | zero =>
      intro v2_29 r_29 ls hl H locs hP hS hr
      rw [f_L_state_L29_z] at hr
      cases hr
    | succ fuel ih =>
      intro v2_29 r_29 ls hl H locs hP hS hr
      rw [f_L_state_L29_s] at hr
      refine lv_iload_n hx hb dL_state_29 rfl (lv_at hl 2 rfl) ?_
      refine lv_aload_n hx hb dL_state_30 rfl (lv_at hl 0 rfl) ?_
      refine lv_iconst (v := (3 : Int32)) hx hb dL_state_31 (by decide) ?_
      obtain ⟨u_4, hu_4, hr⟩ := bd_e hr
      refine ro_V ⟨hx, hb, hml, hown, hts⟩ (k_X6_told l dC dI cI cJ a_b a_b_triangle a_b_now a_b_kept a_b_trial a_b_reader a_b_tapes a_b_triangle_halves a_b_now_marks a_b_now_seen a_b_now_events a_b_now_book a_b_now_marks_numbers (3 : Int32) b_hasImage b_triangle_halves b_now_p b_now_e b_now_modulus b_now_windowRow b_now_windowPlace b_now_marks_size b_now_marks_numbers u_4 hu_4) (cwV 1 hts gL_state_X6_told rfl rfl rfl (by decide +kernel) ⟨Nat.le_of_ble_eq_true rfl, Nat.le_of_ble_eq_true rfl⟩) hE hP 0 rfl rfl rfl (hP.sub [0, 1, 2, 3, 4, 5] rfl) rfl hl.1 rfl (Nat.le_of_ble_eq_true rfl) dL_state_32 ⟨Nat.le_of_ble_eq_true rfl, Nat.le_of_ble_eq_true rfl⟩ ?_
      refine lv_icmp_ge (tgt := 76) hx hb dL_state_35 (by decide) (fun c_5 => ?_) (fun c_5 => ?_)
      · have hr := ite_p hr c_5
        exact hk r_29 ls (lv_sub hl [1] rfl) H locs hP hS hr
      · have hr := ite_n hr c_5
        refine lv_aload_n hx hb dL_state_38 rfl (lv_at hl 1 rfl) ?_
        refine lv_bipush (v := (6 : Int32)) hx hb dL_state_39 (by decide) ?_
        refine lv_iconst (v := (2 : Int32)) hx hb dL_state_41 (by decide) ?_
        refine lv_iload_n hx hb dL_state_42 rfl (lv_at hl 2 rfl) ?_
        refine lv_imul hx hb dL_state_43 ?_
        refine lv_iadd hx hb dL_state_44 ?_
        refine lv_aload_n hx hb dL_state_45 rfl (lv_at hl 0 rfl) ?_
        refine lv_iload_n hx hb dL_state_46 rfl (lv_at hl 2 rfl) ?_
        refine lv_iconst (v := (0 : Int32)) hx hb dL_state_47 (by decide) ?_
        obtain ⟨u_6, hu_6, hr⟩ := bd_e hr
        refine ro_V ⟨hx, hb, hml, hown, hts⟩ (k_X6_markOf l dC dI cI cJ a_b a_b_triangle a_b_now a_b_kept a_b_trial a_b_reader a_b_tapes a_b_now_marks a_b_now_seen a_b_now_events a_b_now_book a_b_now_marks_numbers v2_29 (0 : Int32) b_hasImage b_now_p b_now_e b_now_modulus b_now_windowRow b_now_windowPlace b_now_marks_size b_now_marks_numbers u_6 hu_6) (cwV 2 hts gL_state_X6_markOf rfl rfl rfl (by decide +kernel) ⟨Nat.le_of_ble_eq_true rfl, Nat.le_of_ble_eq_true rfl⟩) hE hP 0 rfl rfl rfl (hP.sub [0, 3, 4, 5] rfl) rfl hl.1 rfl (Nat.le_of_ble_eq_true rfl) dL_state_48 ⟨Nat.le_of_ble_eq_true rfl, Nat.le_of_ble_eq_true rfl⟩ ?_
        refine lv_iconst (v := (1 : Int32)) hx hb dL_state_51 (by decide) ?_
        refine lv_iadd hx hb dL_state_52 ?_
        obtain ⟨w_7, ew_7, hw_7, hr⟩ := wr_e hr
        refine va_iast hx hb hK hP (hD.fst rfl) hS 6 0 rfl rfl hw_7 dL_state_53 (fun H locs hP _ hS => ?_)
        rw [← ew_7] at hP
        have hP : va_P (dC, dI) vwCl [(a_b, .inr (5, [.ref a_b_triangle, .ref a_b_now, .ref a_b_kept, .ref a_b_trial, .ref a_b_reader, .ref a_b_tapes, .int b_hasImage])), (a_b_triangle, .inr (4, [.ref a_b_triangle_halves])), (a_b_triangle_halves, .inl (cI, 4160, .inl b_triangle_halves)), (a_b_now, .inr (2, [.ref a_b_triangle, .ref a_b_now_marks, .ref a_b_now_seen, .ref a_b_now_events, .ref a_b_now_book, .int b_now_p, .int b_now_e, .int b_now_modulus, .int b_now_windowRow, .int b_now_windowPlace])), (a_b_now_marks, .inr (0, [.ref a_b_now_marks_numbers, .int b_now_marks_size])), (a_b_now_marks_numbers, .inl (cI, 18, .inl b_now_marks_numbers)), (a_r, .inl (cI, 20, .inl w_7))] H := hP
        refine lv_aload_n hx hb dL_state_54 rfl (lv_at hl 1 rfl) ?_
        refine lv_bipush (v := (7 : Int32)) hx hb dL_state_55 (by decide) ?_
        refine lv_iconst (v := (2 : Int32)) hx hb dL_state_57 (by decide) ?_
        refine lv_iload_n hx hb dL_state_58 rfl (lv_at hl 2 rfl) ?_
        refine lv_imul hx hb dL_state_59 ?_
        refine lv_iadd hx hb dL_state_60 ?_
        refine lv_aload_n hx hb dL_state_61 rfl (lv_at hl 0 rfl) ?_
        refine lv_iload_n hx hb dL_state_62 rfl (lv_at hl 2 rfl) ?_
        refine lv_iconst (v := (1 : Int32)) hx hb dL_state_63 (by decide) ?_
        obtain ⟨u_8, hu_8, hr⟩ := bd_e hr
        refine ro_V ⟨hx, hb, hml, hown, hts⟩ (k_X6_markOf l dC dI cI cJ a_b a_b_triangle a_b_now a_b_kept a_b_trial a_b_reader a_b_tapes a_b_now_marks a_b_now_seen a_b_now_events a_b_now_book a_b_now_marks_numbers v2_29 (1 : Int32) b_hasImage b_now_p b_now_e b_now_modulus b_now_windowRow b_now_windowPlace b_now_marks_size b_now_marks_numbers u_8 hu_8) (cwV 2 hts gL_state_X6_markOf rfl rfl rfl (by decide +kernel) ⟨Nat.le_of_ble_eq_true rfl, Nat.le_of_ble_eq_true rfl⟩) hE hP 0 rfl rfl rfl (hP.sub [0, 3, 4, 5] rfl) rfl hl.1 rfl (Nat.le_of_ble_eq_true rfl) dL_state_64 ⟨Nat.le_of_ble_eq_true rfl, Nat.le_of_ble_eq_true rfl⟩ ?_
        refine lv_iconst (v := (1 : Int32)) hx hb dL_state_67 (by decide) ?_
        refine lv_iadd hx hb dL_state_68 ?_
        obtain ⟨w_9, ew_9, hw_9, hr⟩ := wr_e hr
        refine va_iast hx hb hK hP (hD.fst rfl) hS 6 0 rfl rfl hw_9 dL_state_69 (fun H locs hP _ hS => ?_)
        rw [← ew_9] at hP
        have hP : va_P (dC, dI) vwCl [(a_b, .inr (5, [.ref a_b_triangle, .ref a_b_now, .ref a_b_kept, .ref a_b_trial, .ref a_b_reader, .ref a_b_tapes, .int b_hasImage])), (a_b_triangle, .inr (4, [.ref a_b_triangle_halves])), (a_b_triangle_halves, .inl (cI, 4160, .inl b_triangle_halves)), (a_b_now, .inr (2, [.ref a_b_triangle, .ref a_b_now_marks, .ref a_b_now_seen, .ref a_b_now_events, .ref a_b_now_book, .int b_now_p, .int b_now_e, .int b_now_modulus, .int b_now_windowRow, .int b_now_windowPlace])), (a_b_now_marks, .inr (0, [.ref a_b_now_marks_numbers, .int b_now_marks_size])), (a_b_now_marks_numbers, .inl (cI, 18, .inl b_now_marks_numbers)), (a_r, .inl (cI, 20, .inl w_9))] H := hP
        refine lv_iinc (v := (v2_29 + (1 : Int32))) (lv' := [(2, .int (v2_29 + (1 : Int32))), (0, .ref a_b), (1, .ref a_r)]) hx hb dL_state_70 hl (k := 2) rfl (congrArg (fun z => v2_29 + z) (by decide)) (by decide) rfl (fun ls hl => ?_)
        refine lv_goto (tgt := 29) hx hb dL_state_73 (by decide) ?_
        exact ih (v2_29 + (1 : Int32)) w_9 ls (lv_sub hl [1, 2, 0] rfl) H locs hP hS hr
  refine hL29  _ (fun xc_r_29 ls hl H locs hP hS hr => ?_) 5000 (0 : Int32) xc_r_7 ls (lv_sub hl [1, 2, 0] rfl) H locs hP hS hr
  refine lv_aload_n hx hb dL_state_76 rfl (lv_at hl 0 rfl) ?_
  obtain rfl := Option.some.inj hr
  exact hret H locs _ a_r hP (hD.fst rfl) hS (fun Qc free hq hf => W.aret hx hb hrt (Or.inr ⟨_, rfl⟩) (Or.inr ⟨_, rfl⟩) hq hf dL_state_77 hlocks)
