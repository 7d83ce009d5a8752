/-! X7_isIn -/
theorem fz_X7_isIn (p0 : Int64) (p1 : Int64) (p2 : Int64) : f_X7_isIn p0 p1 p2 = 0 ∨ f_X7_isIn p0 p1 p2 = 1 := nb_lit _
def rmX7_isIn : Room := { frames := 0, cells := 0, slots := 0, locals := 0 }
set_option maxHeartbeats 4000000 in
set_option maxRecDepth 100000 in
theorem k_X7_isIn (l : Launch) (dC : Nat → ClassId) (dI : Nat → Nat → Nat) (cI cJ : ClassId) (p0 : Int64) (p1 : Int64) (p2 : Int64) : Met l yX7_isIn wsX7_isIn rmX7_isIn (va_Pc [.long p0, .long p1, .long p2] (pE (dC, dI) cI cJ [])) (rq (.int (f_X7_isIn p0 p1 p2))) 0 0 nofree := by
  refine ro_of_z (cc := cX7_isIn) (maxL := 6) (by decide) rfl (Nat.le_of_ble_eq_true rfl) ?_
  intro p e s m args below meth c Q ls hx hb hml hown hts hE hP hret hl
  have hK := hE.1
  have hl : lv_has ls 6 [(0, .long p0), (2, .long p1), (4, .long p2)] := hl
  refine lv_lload_n hx hb dX7_isIn_0 rfl (lv_at hl 0 rfl) ?_
  refine lv_lload_n hx hb dX7_isIn_1 rfl (lv_at hl 1 rfl) ?_
  refine W.lcmp hx hb dX7_isIn_2 ?_
  have hJ_1 : ∀ (y_2 : Int32) (ey_2 : y_2 = (if (¬ (((lg_cmp p0 p1) < 0) ∨ (0 < (lg_cmp p0 p2)))) then (1 : Int32) else (0 : Int32))) (ls : Array Slot), lv_has ls 6 [] → W p l e rmX7_isIn s m args below meth c s.heap [] 0 0 Q (F0 m 18 ls [.int y_2]) := by
    intro y_2 ey_2 ls hl
    subst ey_2
    exact hret 18 ls _ dX7_isIn_18 (nb_lit _) rfl
  refine lv_if_lt (tgt := 17) hx hb dX7_isIn_3 (by decide) (fun c_3 => ?_) (fun c_3 => ?_)
  · refine lv_iconst (v := (0 : Int32)) hx hb dX7_isIn_17 (by decide) ?_
    exact hJ_1 _ (if_neg (fun h => h (Or.inl c_3))).symm ls (lv_sub hl [] rfl)
  · refine lv_lload_n hx hb dX7_isIn_6 rfl (lv_at hl 0 rfl) ?_
    refine lv_lload hx hb dX7_isIn_7 (lv_at hl 2 rfl) ?_
    refine W.lcmp hx hb dX7_isIn_9 ?_
    refine lv_if_gt (tgt := 17) hx hb dX7_isIn_10 (by decide) (fun c_4 => ?_) (fun c_4 => ?_)
    · refine lv_iconst (v := (0 : Int32)) hx hb dX7_isIn_17 (by decide) ?_
      exact hJ_1 _ (if_neg (fun h => h (Or.inr c_4))).symm ls (lv_sub hl [] rfl)
    · refine lv_iconst (v := (1 : Int32)) hx hb dX7_isIn_13 (by decide) ?_
      refine lv_goto (tgt := 18) hx hb dX7_isIn_14 (by decide) ?_
      exact hJ_1 _ (if_pos (fun h => h.elim c_3 c_4)).symm ls (lv_sub hl [] rfl)
/-! X7_copies -/
def rmX7_copies : Room := { frames := 0, cells := 0, slots := 0, locals := 0 }
set_option maxHeartbeats 4000000 in
set_option maxRecDepth 100000 in
theorem k_X7_copies (l : Launch) (dC : Nat → ClassId) (dI : Nat → Nat → Nat) (cI cJ : ClassId) (a_u : Nat) (a_v : Nat) (n_u : Nat) (n_v : Nat) (u : Nat → Int32) (v : Nat → Int32) (sz : Nat) (r : (Nat → Int32)) (hr : f_X7_copies n_u n_v u v = some r) : Met l yX7_copies wsX7_copies rmX7_copies (va_Pc [.ref a_u, .ref a_v] (pM (dC, dI) cI cJ [(a_u, .inl (cI, n_u, .inl u)), (a_v, .inl (cI, n_v, .inl v))] sz)) (qM none (dC, dI) [(a_u, .inl (cI, n_u, .inl u)), (a_v, .inl (cI, n_v, .inl r))] (va_A [(a_u, .inl (cI, n_u, .inl u)), (a_v, .inl (cI, n_v, .inl v))] sz)) 0 0 (va_A [(a_u, .inl (cI, n_u, .inl u)), (a_v, .inl (cI, n_v, .inl v))] sz) := by
  refine mu_of (cc := cX7_copies) (maxL := 3) (by decide) rfl (Nat.le_of_ble_eq_true rfl) ?_
  intro p e s m args below meth c Q ls A hx hb hml hown hts hE hP hD hA hrt hlocks hret hl
  have hK := hE.1
  have hS : va_S A s.heap s.heap [] := va_S.rf
  have hl : lv_has ls 3 [(0, .ref a_u), (1, .ref a_v)] := hl
  unfold f_X7_copies at hr
  obtain ⟨H, hHe⟩ : ∃ H, H = s.heap := ⟨_, rfl⟩
  obtain ⟨locs, hLe⟩ : ∃ locs : List Loc, locs = [] := ⟨_, rfl⟩
  suffices hgo : va_P (dC, dI) vwCl [(a_u, .inl (cI, n_u, .inl u)), (a_v, .inl (cI, n_v, .inl v))] H → va_S A s.heap H locs → W p l e rmX7_copies s m args below meth c H locs 0 0 Q (F0 m 0 ls []) by
    subst hHe; subst hLe; exact hgo hP hS
  clear hP hS hHe hLe
  intro hP hS
  refine lv_iconst (v := (0 : Int32)) hx hb dX7_copies_0 (by decide) ?_
  refine lv_istore_n (lv' := [(2, .int (0 : Int32)), (0, .ref a_u), (1, .ref a_v)]) hx hb dX7_copies_1 rfl hl (by decide) rfl (fun ls hl => ?_)
  have hL2 : ∀  (k_2 : (Nat → Int32) → Option ((Nat → Int32))) (hk : ∀ (xc_v_2 : Nat → Int32) (ls : Array Slot), lv_has ls 3 [] → ∀ (H : Heap) (locs : List Loc), va_P (dC, dI) vwCl [(a_u, .inl (cI, n_u, .inl u)), (a_v, .inl (cI, n_v, .inl xc_v_2))] H → va_S A s.heap H locs →  k_2 xc_v_2 = some r → W p l e rmX7_copies s m args below meth c H locs 0 0 Q (F0 m 20 ls [])) (fuel : Nat) (v2_2 : Int32) (v_2 : Nat → Int32) (ls : Array Slot), lv_has ls 3 [(0, .ref a_u), (1, .ref a_v), (2, .int v2_2)] → ∀ (H : Heap) (locs : List Loc), va_P (dC, dI) vwCl [(a_u, .inl (cI, n_u, .inl u)), (a_v, .inl (cI, n_v, .inl v_2))] H → va_S A s.heap H locs → f_X7_copies_L2 k_2 n_u n_v u fuel v2_2 v_2 = some r → W p l e rmX7_copies s m args below meth c H locs 0 0 Q (F0 m 2 ls []) := by
    intro k_2 hk fuel
    induction fuel with
    | zero =>
      intro v2_2 v_2 ls hl H locs hP hS hr
      rw [f_X7_copies_L2_z] at hr
      cases hr
    | succ fuel ih =>
      intro v2_2 v_2 ls hl H locs hP hS hr
      rw [f_X7_copies_L2_s] at hr
      refine lv_iload_n hx hb dX7_copies_2 rfl (lv_at hl 2 rfl) ?_
      refine lv_bipush (v := (64 : Int32)) hx hb dX7_copies_3 (by decide) ?_
      refine lv_icmp_ge (tgt := 20) hx hb dX7_copies_5 (by decide) (fun c_1 => ?_) (fun c_1 => ?_)
      · have hr := ite_p hr c_1
        exact hk v_2 ls (lv_sub hl [] rfl) H locs hP hS hr
      · have hr := ite_n hr c_1
        refine lv_aload_n hx hb dX7_copies_8 rfl (lv_at hl 1 rfl) ?_
        refine lv_iload_n hx hb dX7_copies_9 rfl (lv_at hl 2 rfl) ?_
        refine lv_aload_n hx hb dX7_copies_10 rfl (lv_at hl 0 rfl) ?_
        refine lv_iload_n hx hb dX7_copies_11 rfl (lv_at hl 2 rfl) ?_
        obtain ⟨g_2, eg_2, hg_2, hr⟩ := rd_e hr
        refine va_iald hx hb hK hP 0 0 rfl rfl hg_2 dX7_copies_12 ?_
        refine tp_ eg_2 ?_
        obtain ⟨w_3, ew_3, hw_3, hr⟩ := wr_e hr
        refine va_iast hx hb hK hP (hD.fst rfl) hS 1 0 rfl rfl hw_3 dX7_copies_13 (fun H locs hP _ hS => ?_)
        rw [← ew_3] at hP
        have hP : va_P (dC, dI) vwCl [(a_u, .inl (cI, n_u, .inl u)), (a_v, .inl (cI, n_v, .inl w_3))] H := hP
        refine lv_iinc (v := (v2_2 + (1 : Int32))) (lv' := [(2, .int (v2_2 + (1 : Int32))), (0, .ref a_u), (1, .ref a_v)]) hx hb dX7_copies_14 hl (k := 2) rfl (congrArg (fun z => v2_2 + z) (by decide)) (by decide) rfl (fun ls hl => ?_)
        refine lv_goto (tgt := 2) hx hb dX7_copies_17 (by decide) ?_
        exact ih (v2_2 + (1 : Int32)) w_3 ls (lv_sub hl [1, 2, 0] rfl) H locs hP hS hr
  refine hL2  _ (fun xc_v_2 ls hl H locs hP hS hr => ?_) 5000 (0 : Int32) v ls (lv_sub hl [1, 2, 0] rfl) H locs hP hS hr
  obtain rfl := Option.some.inj hr
  exact hret H locs _ hP hS (fun Qc free hq hf => W.vret hx hb hrt hq hf dX7_copies_20 hlocks)
/-! X7_isPrime -/
theorem fz_X7_isPrime (p0 : Int32) : f_X7_isPrime p0 = 0 ∨ f_X7_isPrime p0 = 1 := nb_lit _
def rmX7_isPrime : Room := { frames := 0, cells := 0, slots := 0, locals := 0 }
set_option maxHeartbeats 4000000 in
set_option maxRecDepth 100000 in
theorem k_X7_isPrime (l : Launch) (dC : Nat → ClassId) (dI : Nat → Nat → Nat) (cI cJ : ClassId) (p0 : Int32) : Met l yX7_isPrime wsX7_isPrime rmX7_isPrime (va_Pc [.int p0] (pE (dC, dI) cI cJ [])) (rq (.int (f_X7_isPrime p0))) 0 0 nofree := by
  refine ro_of_z (cc := cX7_isPrime) (maxL := 1) (by decide) rfl (Nat.le_of_ble_eq_true rfl) ?_
  intro p e s m args below meth c Q ls hx hb hml hown hts hE hP hret hl
  have hK := hE.1
  have hl : lv_has ls 1 [(0, .int p0)] := hl
  refine lv_iload_n hx hb dX7_isPrime_0 rfl (lv_at hl 0 rfl) ?_
  refine lv_iconst (v := (2 : Int32)) hx hb dX7_isPrime_1 (by decide) ?_
  have hJ_1 : ∀ (y_2 : Int32) (ey_2 : y_2 = (if ((p0 = (2 : Int32)) ∨ ((p0 = (3 : Int32)) ∨ ((p0 = (5 : Int32)) ∨ (p0 = (7 : Int32))))) then (1 : Int32) else (0 : Int32))) (ls : Array Slot), lv_has ls 1 [] → W p l e rmX7_isPrime s m args below meth c s.heap [] 0 0 Q (F0 m 26 ls [.int y_2]) := by
    intro y_2 ey_2 ls hl
    subst ey_2
    exact hret 26 ls _ dX7_isPrime_26 (nb_lit _) rfl
  refine lv_icmp_eq (tgt := 21) hx hb dX7_isPrime_2 (by decide) (fun c_3 => ?_) (fun c_3 => ?_)
  · refine lv_iconst (v := (1 : Int32)) hx hb dX7_isPrime_21 (by decide) ?_
    refine lv_goto (tgt := 26) hx hb dX7_isPrime_22 (by decide) ?_
    exact hJ_1 _ (if_pos (Or.inl c_3)).symm ls (lv_sub hl [] rfl)
  · refine lv_iload_n hx hb dX7_isPrime_5 rfl (lv_at hl 0 rfl) ?_
    refine lv_iconst (v := (3 : Int32)) hx hb dX7_isPrime_6 (by decide) ?_
    refine lv_icmp_eq (tgt := 21) hx hb dX7_isPrime_7 (by decide) (fun c_4 => ?_) (fun c_4 => ?_)
    · refine lv_iconst (v := (1 : Int32)) hx hb dX7_isPrime_21 (by decide) ?_
      refine lv_goto (tgt := 26) hx hb dX7_isPrime_22 (by decide) ?_
      exact hJ_1 _ (if_pos (Or.inr (Or.inl c_4))).symm ls (lv_sub hl [] rfl)
    · refine lv_iload_n hx hb dX7_isPrime_10 rfl (lv_at hl 0 rfl) ?_
      refine lv_iconst (v := (5 : Int32)) hx hb dX7_isPrime_11 (by decide) ?_
      refine lv_icmp_eq (tgt := 21) hx hb dX7_isPrime_12 (by decide) (fun c_5 => ?_) (fun c_5 => ?_)
      · refine lv_iconst (v := (1 : Int32)) hx hb dX7_isPrime_21 (by decide) ?_
        refine lv_goto (tgt := 26) hx hb dX7_isPrime_22 (by decide) ?_
        exact hJ_1 _ (if_pos (Or.inr (Or.inr (Or.inl c_5)))).symm ls (lv_sub hl [] rfl)
      · refine lv_iload_n hx hb dX7_isPrime_15 rfl (lv_at hl 0 rfl) ?_
        refine lv_bipush (v := (7 : Int32)) hx hb dX7_isPrime_16 (by decide) ?_
        refine lv_icmp_ne (tgt := 25) hx hb dX7_isPrime_18 (by decide) (fun c_6 => ?_) (fun c_6 => ?_)
        · refine lv_iconst (v := (0 : Int32)) hx hb dX7_isPrime_25 (by decide) ?_
          exact hJ_1 _ (if_neg (fun h => h.elim c_3 (fun h => h.elim c_4 (fun h => h.elim c_5 c_6)))).symm ls (lv_sub hl [] rfl)
        · refine lv_iconst (v := (1 : Int32)) hx hb dX7_isPrime_21 (by decide) ?_
          refine lv_goto (tgt := 26) hx hb dX7_isPrime_22 (by decide) ?_
          exact hJ_1 _ (if_pos (Or.inr (Or.inr (Or.inr c_6)))).symm ls (lv_sub hl [] rfl)
/-! X7_power -/
def rmX7_power : Room := { frames := 0, cells := 0, slots := 0, locals := 0 }
set_option maxHeartbeats 4000000 in
set_option maxRecDepth 100000 in
theorem k_X7_power (l : Launch) (dC : Nat → ClassId) (dI : Nat → Nat → Nat) (cI cJ : ClassId) (p0 : Int32) (p1 : Int32) (r : Int32) (hr : f_X7_power p0 p1 = some r) : Met l yX7_power wsX7_power rmX7_power (va_Pc [.int p0, .int p1] (pE (dC, dI) cI cJ [])) (rq (.int r)) 0 0 nofree := by
  refine ro_of_i (cc := cX7_power) (maxL := 4) (by decide) rfl (Nat.le_of_ble_eq_true rfl) ?_
  intro p e s m args below meth c Q ls hx hb hml hown hts hE hP hret hl
  have hK := hE.1
  have hl : lv_has ls 4 [(0, .int p0), (1, .int p1)] := hl
  unfold f_X7_power at hr
  refine lv_iconst (v := (1 : Int32)) hx hb dX7_power_0 (by decide) ?_
  refine lv_istore_n (lv' := [(2, .int (1 : Int32)), (0, .int p0), (1, .int p1)]) hx hb dX7_power_1 rfl hl (by decide) rfl (fun ls hl => ?_)
  refine lv_iconst (v := (0 : Int32)) hx hb dX7_power_2 (by decide) ?_
  refine lv_istore_n (lv' := [(3, .int (0 : Int32)), (2, .int (1 : Int32)), (0, .int p0), (1, .int p1)]) hx hb dX7_power_3 rfl hl (by decide) rfl (fun ls hl => ?_)
  have hL4 : ∀ (v0_4 : Int32) (v1_4 : Int32) (k_4 : Int32 → Option (Int32)) (hk : ∀ (x2_4 : Int32) (ls : Array Slot), lv_has ls 4 [(2, .int x2_4)] → k_4 x2_4 = some r → W p l e rmX7_power s m args below meth c s.heap [] 0 0 Q (F0 m 19 ls [])) (fuel : Nat) (v2_4 : Int32) (v3_4 : Int32) (ls : Array Slot), lv_has ls 4 [(0, .int v0_4), (1, .int v1_4), (2, .int v2_4), (3, .int v3_4)] → f_X7_power_L4 k_4 v0_4 v1_4 fuel v2_4 v3_4 = some r → W p l e rmX7_power s m args below meth c s.heap [] 0 0 Q (F0 m 4 ls []) := by
    intro v0_4 v1_4 k_4 hk fuel
    induction fuel with
    | zero =>
      intro v2_4 v3_4 ls hl hr
      rw [f_X7_power_L4_z] at hr
      cases hr
    | succ fuel ih =>
      intro v2_4 v3_4 ls hl hr
      rw [f_X7_power_L4_s] at hr
      refine lv_iload_n hx hb dX7_power_4 rfl (lv_at hl 3 rfl) ?_
      refine lv_iload_n hx hb dX7_power_5 rfl (lv_at hl 1 rfl) ?_
      refine lv_icmp_ge (tgt := 19) hx hb dX7_power_6 (by decide) (fun c_1 => ?_) (fun c_1 => ?_)
      · have hr := ite_p hr c_1
        exact hk v2_4 ls (lv_sub hl [2] rfl) hr
      · have hr := ite_n hr c_1
        refine lv_iload_n hx hb dX7_power_9 rfl (lv_at hl 2 rfl) ?_
        refine lv_iload_n hx hb dX7_power_10 rfl (lv_at hl 0 rfl) ?_
        refine lv_imul hx hb dX7_power_11 ?_
        refine lv_istore_n (lv' := [(2, .int (v2_4 * v0_4)), (0, .int v0_4), (1, .int v1_4), (3, .int v3_4)]) hx hb dX7_power_12 rfl hl (by decide) rfl (fun ls hl => ?_)
        refine lv_iinc (v := (v3_4 + (1 : Int32))) (lv' := [(3, .int (v3_4 + (1 : Int32))), (2, .int (v2_4 * v0_4)), (0, .int v0_4), (1, .int v1_4)]) hx hb dX7_power_13 hl (k := 3) rfl (congrArg (fun z => v3_4 + z) (by decide)) (by decide) rfl (fun ls hl => ?_)
        refine lv_goto (tgt := 4) hx hb dX7_power_16 (by decide) ?_
        exact ih (v2_4 * v0_4) (v3_4 + (1 : Int32)) ls (lv_sub hl [2, 3, 1, 0] rfl) hr
  refine hL4 p0 p1 _ (fun x2_4 ls hl hr => ?_) 5000 (1 : Int32) (0 : Int32) ls (lv_sub hl [2, 3, 1, 0] rfl) hr
  refine lv_iload_n hx hb dX7_power_19 rfl (lv_at hl 0 rfl) ?_
  exact hret 20 ls _ dX7_power_20 (Option.some.inj hr)
/-! X7_modulus -/
def rmX7_modulus : Room := { frames := 1, cells := 0, slots := 0, locals := 23 }
set_option maxHeartbeats 4000000 in
set_option maxRecDepth 100000 in
theorem k_X7_modulus (l : Launch) (dC : Nat → ClassId) (dI : Nat → Nat → Nat) (cI cJ : ClassId) (a_o : Nat) (a_o_g : Nat) (a_o_kept : Nat) (a_o_was : Nat) (a_o_triangle : Nat) (a_o_text : Nat) (a_o_sort : Nat) (a_o_size : Nat) (a_o_items : Nat) (o_isKept : Int32) (o_takenBy : Int32) (o_fed : Int32) (o_place : Int32) (o_letter : Int32) (o_first : Int32) (o_second : Int32) (o_g : Nat → Int32) (r : Int32) (hr : f_X7_modulus o_g = some r) : Met l yX7_modulus wsX7_modulus rmX7_modulus (va_Pc [.ref a_o] (pE (dC, dI) cI cJ [(a_o, .inr (6, [.ref a_o_g, .ref a_o_kept, .ref a_o_was, .int o_isKept, .ref a_o_triangle, .int o_takenBy, .ref a_o_text, .int o_fed, .int o_place, .int o_letter, .int o_first, .int o_second, .ref a_o_sort, .ref a_o_size, .ref a_o_items])), (a_o_g, .inl (cI, 64, .inl o_g))])) (rq (.int r)) 0 0 nofree := by
  refine ro_of_i (cc := cX7_modulus) (maxL := 1) (by decide) rfl (Nat.le_of_ble_eq_true rfl) ?_
  intro p e s m args below meth c Q ls hx hb hml hown hts hE hP hret hl
  have hK := hE.1
  have hl : lv_has ls 1 [(0, .ref a_o)] := hl
  unfold f_X7_modulus at hr
  have iX7 : ∀ w ∈ wsX70, w ∈ wsX7_modulus := memr_ (big := wsX7_modulus) wsX70 [6, 7, 8, 9, 10, 11, 12, 13, 14, 15, 16, 17, 18, 19, 20] (by decide +kernel)
  refine lv_aload_n hx hb dX7_modulus_0 rfl (lv_at hl 0 rfl) ?_
  refine va_get (D := (dC, dI)) (ci := 6) (v := .ref a_o_g) (C := RX7) (T := TX7) (N := 15) hx hb hts iX7 hown hK hP 0 rfl rfl 0 (by decide) (hts (.fieldLink RX7 11 "PascalRowsModel" "g" "[I") (List.mem_of_getElem? (i := 1) rfl)) (fun _ h9 => h9) rfl dX7_modulus_1 ?_
  refine lv_iconst (v := (0 : Int32)) hx hb dX7_modulus_4 (by decide) ?_
  obtain ⟨g_1, eg_1, hg_1, hr⟩ := rd_e hr
  refine va_iald hx hb hK hP 1 0 rfl rfl hg_1 dX7_modulus_5 ?_
  refine tp_ eg_1 ?_
  refine lv_aload_n hx hb dX7_modulus_6 rfl (lv_at hl 0 rfl) ?_
  refine va_get (D := (dC, dI)) (ci := 6) (v := .ref a_o_g) (C := RX7) (T := TX7) (N := 15) hx hb hts iX7 hown hK hP 0 rfl rfl 0 (by decide) (hts (.fieldLink RX7 11 "PascalRowsModel" "g" "[I") (List.mem_of_getElem? (i := 1) rfl)) (fun _ h9 => h9) rfl dX7_modulus_7 ?_
  refine lv_iconst (v := (1 : Int32)) hx hb dX7_modulus_10 (by decide) ?_
  obtain ⟨g_2, eg_2, hg_2, hr⟩ := rd_e hr
  refine va_iald hx hb hK hP 1 0 rfl rfl hg_2 dX7_modulus_11 ?_
  refine tp_ eg_2 ?_
  obtain ⟨u_3, hu_3, hr⟩ := bd_e hr
  refine ro_S ⟨hx, hb, hml, hown, hts⟩ (k_X7_power l dC dI cI cJ g_1 g_2 u_3 hu_3) (va_cwS 2 hts gX7_modulus_X7_power rfl rfl rfl (by decide +kernel) ⟨Nat.le_of_ble_eq_true rfl, Nat.le_of_ble_eq_true rfl⟩) hE (hP.sub [] rfl) rfl hl.1 rfl (Nat.le_of_ble_eq_true rfl) dX7_modulus_12 ⟨Nat.zero_le _, Nat.zero_le _⟩ ?_
  exact hret 15 ls _ dX7_modulus_15 (Option.some.inj hr)
/-! X7_takes -/
def rmX7_takes : Room := { frames := 0, cells := 0, slots := 0, locals := 0 }
set_option maxHeartbeats 4000000 in
set_option maxRecDepth 100000 in
theorem k_X7_takes (l : Launch) (dC : Nat → ClassId) (dI : Nat → Nat → Nat) (cI cJ : ClassId) (a_o : Nat) (a_o_g : Nat) (a_o_kept : Nat) (a_o_was : Nat) (a_o_triangle : Nat) (a_o_text : Nat) (a_o_sort : Nat) (a_o_size : Nat) (a_o_items : Nat) (p0 : Int32) (o_isKept : Int32) (o_takenBy : Int32) (o_fed : Int32) (o_place : Int32) (o_letter : Int32) (o_first : Int32) (o_second : Int32) (o_triangle : Nat → Int32) (sz : Nat) (r : (Nat → Int32) × Int32) (hr : f_X7_takes p0 o_triangle o_takenBy = some r) : Met l yX7_takes wsX7_takes rmX7_takes (va_Pc [.ref a_o, .int p0] (pM (dC, dI) cI cJ [(a_o, .inr (6, [.ref a_o_g, .ref a_o_kept, .ref a_o_was, .int o_isKept, .ref a_o_triangle, .int o_takenBy, .ref a_o_text, .int o_fed, .int o_place, .int o_letter, .int o_first, .int o_second, .ref a_o_sort, .ref a_o_size, .ref a_o_items])), (a_o_triangle, .inl (cI, 16384, .inl o_triangle))] sz)) (qM none (dC, dI) [(a_o, .inr (6, [.ref a_o_g, .ref a_o_kept, .ref a_o_was, .int o_isKept, .ref a_o_triangle, .int r.2, .ref a_o_text, .int o_fed, .int o_place, .int o_letter, .int o_first, .int o_second, .ref a_o_sort, .ref a_o_size, .ref a_o_items])), (a_o_triangle, .inl (cI, 16384, .inl r.1))] (va_A [(a_o, .inr (6, [.ref a_o_g, .ref a_o_kept, .ref a_o_was, .int o_isKept, .ref a_o_triangle, .int o_takenBy, .ref a_o_text, .int o_fed, .int o_place, .int o_letter, .int o_first, .int o_second, .ref a_o_sort, .ref a_o_size, .ref a_o_items])), (a_o_triangle, .inl (cI, 16384, .inl o_triangle))] sz)) 0 0 (va_A [(a_o, .inr (6, [.ref a_o_g, .ref a_o_kept, .ref a_o_was, .int o_isKept, .ref a_o_triangle, .int o_takenBy, .ref a_o_text, .int o_fed, .int o_place, .int o_letter, .int o_first, .int o_second, .ref a_o_sort, .ref a_o_size, .ref a_o_items])), (a_o_triangle, .inl (cI, 16384, .inl o_triangle))] sz) := by
  refine mu_of (cc := cX7_takes) (maxL := 4) (by decide) rfl (Nat.le_of_ble_eq_true rfl) ?_
  intro p e s m args below meth c Q ls A hx hb hml hown hts hE hP hD hA hrt hlocks hret hl
  have hK := hE.1
  have hS : va_S A s.heap s.heap [] := va_S.rf
  have hl : lv_has ls 4 [(0, .ref a_o), (1, .int p0)] := hl
  unfold f_X7_takes at hr
  obtain ⟨H, hHe⟩ : ∃ H, H = s.heap := ⟨_, rfl⟩
  obtain ⟨locs, hLe⟩ : ∃ locs : List Loc, locs = [] := ⟨_, rfl⟩
  suffices hgo : va_P (dC, dI) vwCl [(a_o, .inr (6, [.ref a_o_g, .ref a_o_kept, .ref a_o_was, .int o_isKept, .ref a_o_triangle, .int o_takenBy, .ref a_o_text, .int o_fed, .int o_place, .int o_letter, .int o_first, .int o_second, .ref a_o_sort, .ref a_o_size, .ref a_o_items])), (a_o_triangle, .inl (cI, 16384, .inl o_triangle))] H → va_S A s.heap H locs → W p l e rmX7_takes s m args below meth c H locs 0 0 Q (F0 m 0 ls []) by
    subst hHe; subst hLe; exact hgo hP hS
  clear hP hS hHe hLe
  intro hP hS
  have iX7 : ∀ w ∈ wsX70, w ∈ wsX7_takes := memr_ (big := wsX7_takes) wsX70 [3, 4, 5, 6, 7, 8, 9, 10, 11, 12, 13, 14, 15, 16, 17] (by decide +kernel)
  refine lv_aload_n hx hb dX7_takes_0 rfl (lv_at hl 0 rfl) ?_
  refine va_get (D := (dC, dI)) (ci := 6) (v := .int o_takenBy) (C := RX7) (T := TX7) (N := 15) hx hb hts iX7 hown hK hP 0 rfl rfl 5 (by decide) (hts (.fieldLink RX7 41 "PascalRowsModel" "takenBy" "I") (List.mem_of_getElem? (i := 1) rfl)) (fun _ h9 => h9) rfl dX7_takes_1 ?_
  refine lv_iload_n hx hb dX7_takes_4 rfl (lv_at hl 1 rfl) ?_
  refine lv_icmp_ne (tgt := 9) hx hb dX7_takes_5 (by decide) (fun c_1 => ?_) (fun c_1 => ?_)
  · have hr := ite_n hr c_1
    refine lv_aload_n hx hb dX7_takes_9 rfl (lv_at hl 0 rfl) ?_
    refine lv_iload_n hx hb dX7_takes_10 rfl (lv_at hl 1 rfl) ?_
    refine va_put (D := (dC, dI)) (ci := 6) (v := .int p0) (ty := .int) (C := RX7) (T := TX7) (N := 15) hx hb hts iX7 tyX7 tyX7_ok nmX7 hown hK hP (hD.fst rfl) hS 0 rfl rfl 5 (by decide) (hts (.fieldLink RX7 41 "PascalRowsModel" "takenBy" "I") (List.mem_of_getElem? (i := 1) rfl)) (fun _ h9 => h9) rfl (by decide +kernel) rfl rfl (Nat.le_of_ble_eq_true rfl) dX7_takes_11 (fun H locs hP _ hS => ?_)
    have hP : va_P (dC, dI) vwCl [(a_o, .inr (6, [.ref a_o_g, .ref a_o_kept, .ref a_o_was, .int o_isKept, .ref a_o_triangle, .int p0, .ref a_o_text, .int o_fed, .int o_place, .int o_letter, .int o_first, .int o_second, .ref a_o_sort, .ref a_o_size, .ref a_o_items])), (a_o_triangle, .inl (cI, 16384, .inl o_triangle))] H := hP
    refine lv_iconst (v := (0 : Int32)) hx hb dX7_takes_14 (by decide) ?_
    refine lv_istore_n (lv' := [(2, .int (0 : Int32)), (0, .ref a_o), (1, .int p0)]) hx hb dX7_takes_15 rfl hl (by decide) rfl (fun ls hl => ?_)
    have hL16 : ∀ (v1_16 : Int32) (o_takenBy_16 : Int32) (k_16 : (Nat → Int32) → Option ((Nat → Int32) × Int32)) (hk : ∀ (xc_o_triangle_16 : Nat → Int32) (ls : Array Slot), lv_has ls 4 [] → ∀ (H : Heap) (locs : List Loc), va_P (dC, dI) vwCl [(a_o, .inr (6, [.ref a_o_g, .ref a_o_kept, .ref a_o_was, .int o_isKept, .ref a_o_triangle, .int o_takenBy_16, .ref a_o_text, .int o_fed, .int o_place, .int o_letter, .int o_first, .int o_second, .ref a_o_sort, .ref a_o_size, .ref a_o_items])), (a_o_triangle, .inl (cI, 16384, .inl xc_o_triangle_16))] H → va_S A s.heap H locs →  k_16 xc_o_triangle_16 = some r → W p l e rmX7_takes s m args below meth c H locs 0 0 Q (F0 m 102 ls [])) (fuel : Nat) (v2_16 : Int32) (o_triangle_16 : Nat → Int32) (ls : Array Slot), lv_has ls 4 [(0, .ref a_o), (1, .int v1_16), (2, .int v2_16)] → ∀ (H : Heap) (locs : List Loc), va_P (dC, dI) vwCl [(a_o, .inr (6, [.ref a_o_g, .ref a_o_kept, .ref a_o_was, .int o_isKept, .ref a_o_triangle, .int o_takenBy_16, .ref a_o_text, .int o_fed, .int o_place, .int o_letter, .int o_first, .int o_second, .ref a_o_sort, .ref a_o_size, .ref a_o_items])), (a_o_triangle, .inl (cI, 16384, .inl o_triangle_16))] H → va_S A s.heap H locs → f_X7_takes_L16 k_16 v1_16 fuel v2_16 o_triangle_16 = some r → W p l e rmX7_takes s m args below meth c H locs 0 0 Q (F0 m 16 ls []) := by
      intro v1_16 o_takenBy_16 k_16 hk fuel
      induction fuel with
      | zero =>
        intro v2_16 o_triangle_16 ls hl H locs hP hS hr
        rw [f_X7_takes_L16_z] at hr
        cases hr
      | succ fuel ih =>
        intro v2_16 o_triangle_16 ls hl H locs hP hS hr
        rw [f_X7_takes_L16_s] at hr
        refine lv_iload_n hx hb dX7_takes_16 rfl (lv_at hl 2 rfl) ?_
        refine lv_sipush (v := (128 : Int32)) hx hb dX7_takes_17 (by decide) ?_
        refine lv_icmp_ge (tgt := 102) hx hb dX7_takes_20 (by decide) (fun c_2 => ?_) (fun c_2 => ?_)
        · have hr := ite_p hr c_2
          exact hk o_triangle_16 ls (lv_sub hl [] rfl) H locs hP hS hr
        · have hr := ite_n hr c_2
          refine lv_iconst (v := (0 : Int32)) hx hb dX7_takes_23 (by decide) ?_
          refine lv_istore_n (lv' := [(3, .int (0 : Int32)), (0, .ref a_o), (1, .int v1_16), (2, .int v2_16)]) hx hb dX7_takes_24 rfl hl (by decide) rfl (fun ls hl => ?_)
          have hL25 : ∀ (v1_25 : Int32) (v2_25 : Int32) (o_takenBy_25 : Int32) (k_25 : (Nat → Int32) → Option ((Nat → Int32) × Int32)) (hk : ∀ (xc_o_triangle_25 : Nat → Int32) (ls : Array Slot), lv_has ls 4 [(0, .ref a_o), (1, .int v1_25), (2, .int v2_25)] → ∀ (H : Heap) (locs : List Loc), va_P (dC, dI) vwCl [(a_o, .inr (6, [.ref a_o_g, .ref a_o_kept, .ref a_o_was, .int o_isKept, .ref a_o_triangle, .int o_takenBy_25, .ref a_o_text, .int o_fed, .int o_place, .int o_letter, .int o_first, .int o_second, .ref a_o_sort, .ref a_o_size, .ref a_o_items])), (a_o_triangle, .inl (cI, 16384, .inl xc_o_triangle_25))] H → va_S A s.heap H locs →  k_25 xc_o_triangle_25 = some r → W p l e rmX7_takes s m args below meth c H locs 0 0 Q (F0 m 96 ls [])) (fuel : Nat) (v3_25 : Int32) (o_triangle_25 : Nat → Int32) (ls : Array Slot), lv_has ls 4 [(0, .ref a_o), (1, .int v1_25), (2, .int v2_25), (3, .int v3_25)] → ∀ (H : Heap) (locs : List Loc), va_P (dC, dI) vwCl [(a_o, .inr (6, [.ref a_o_g, .ref a_o_kept, .ref a_o_was, .int o_isKept, .ref a_o_triangle, .int o_takenBy_25, .ref a_o_text, .int o_fed, .int o_place, .int o_letter, .int o_first, .int o_second, .ref a_o_sort, .ref a_o_size, .ref a_o_items])), (a_o_triangle, .inl (cI, 16384, .inl o_triangle_25))] H → va_S A s.heap H locs → f_X7_takes_L25 k_25 v1_25 v2_25 fuel v3_25 o_triangle_25 = some r → W p l e rmX7_takes s m args below meth c H locs 0 0 Q (F0 m 25 ls []) := by
            intro v1_25 v2_25 o_takenBy_25 k_25 hk fuel
            induction fuel with
            | zero =>
              intro v3_25 o_triangle_25 ls hl H locs hP hS hr
              rw [f_X7_takes_L25_z] at hr
              cases hr
            | succ fuel ih =>
              intro v3_25 o_triangle_25 ls hl H locs hP hS hr
              rw [f_X7_takes_L25_s] at hr
              refine lv_iload_n hx hb dX7_takes_25 rfl (lv_at hl 3 rfl) ?_
              refine lv_iload_n hx hb dX7_takes_26 rfl (lv_at hl 2 rfl) ?_
              refine lv_icmp_gt (tgt := 96) hx hb dX7_takes_27 (by decide) (fun c_3 => ?_) (fun c_3 => ?_)
              · have hr := ite_p hr c_3
                exact hk o_triangle_25 ls (lv_sub hl [0, 1, 2] rfl) H locs hP hS hr
              · have hr := ite_n hr c_3
                refine lv_aload_n hx hb dX7_takes_30 rfl (lv_at hl 0 rfl) ?_
                refine va_get (D := (dC, dI)) (ci := 6) (v := .ref a_o_triangle) (C := RX7) (T := TX7) (N := 15) hx hb hts iX7 hown hK hP 0 rfl rfl 4 (by decide) (hts (.fieldLink RX7 21 "PascalRowsModel" "triangle" "[I") (List.mem_of_getElem? (i := 2) rfl)) (fun _ h9 => h9) rfl dX7_takes_31 ?_
                refine lv_sipush (v := (128 : Int32)) hx hb dX7_takes_34 (by decide) ?_
                refine lv_iload_n hx hb dX7_takes_37 rfl (lv_at hl 2 rfl) ?_
                refine lv_imul hx hb dX7_takes_38 ?_
                refine lv_iload_n hx hb dX7_takes_39 rfl (lv_at hl 3 rfl) ?_
                refine lv_iadd hx hb dX7_takes_40 ?_
                refine lv_iload_n hx hb dX7_takes_41 rfl (lv_at hl 3 rfl) ?_
                have tT_5 : ((v3_25 = 0) ∨ (v3_25 = v2_25)) → W p l e rmX7_takes s m args below meth c H locs 0 0 Q (F0 m 50 ls [.int (((128 : Int32) * v2_25) + v3_25), .ref a_o_triangle]) := by
                  intro hc_4
                  have hr := ite_p hr hc_4
                  refine lv_iconst (v := (1 : Int32)) hx hb dX7_takes_50 (by decide) ?_
                  refine lv_iload_n hx hb dX7_takes_51 rfl (lv_at hl 1 rfl) ?_
                  obtain ⟨d_6, ed_6, hd_6, hr⟩ := md_e hr
                  refine lv_irem hx hb dX7_takes_52 hd_6 ?_
                  refine tp_ ed_6 ?_
                  refine lv_goto (tgt := 89) hx hb dX7_takes_53 (by decide) ?_
                  obtain ⟨w_7, ew_7, hw_7, hr⟩ := wr_e hr
                  refine va_iast hx hb hK hP (hD.fst rfl) hS 1 0 rfl rfl hw_7 dX7_takes_89 (fun H locs hP _ hS => ?_)
                  rw [← ew_7] at hP
                  have hP : va_P (dC, dI) vwCl [(a_o, .inr (6, [.ref a_o_g, .ref a_o_kept, .ref a_o_was, .int o_isKept, .ref a_o_triangle, .int o_takenBy_25, .ref a_o_text, .int o_fed, .int o_place, .int o_letter, .int o_first, .int o_second, .ref a_o_sort, .ref a_o_size, .ref a_o_items])), (a_o_triangle, .inl (cI, 16384, .inl w_7))] H := hP
                  refine lv_iinc (v := (v3_25 + (1 : Int32))) (lv' := [(3, .int (v3_25 + (1 : Int32))), (0, .ref a_o), (1, .int v1_25), (2, .int v2_25)]) hx hb dX7_takes_90 hl (k := 3) rfl (congrArg (fun z => v3_25 + z) (by decide)) (by decide) rfl (fun ls hl => ?_)
                  refine lv_goto (tgt := 25) hx hb dX7_takes_93 (by decide) ?_
                  exact ih (v3_25 + (1 : Int32)) w_7 ls (lv_sub hl [1, 2, 3, 0] rfl) H locs hP hS hr
                have tF_8 : ¬ ((v3_25 = 0) ∨ (v3_25 = v2_25)) → W p l e rmX7_takes s m args below meth c H locs 0 0 Q (F0 m 56 ls [.int (((128 : Int32) * v2_25) + v3_25), .ref a_o_triangle]) := by
                  intro hc_4
                  have hr := ite_n hr hc_4
                  refine lv_aload_n hx hb dX7_takes_56 rfl (lv_at hl 0 rfl) ?_
                  refine va_get (D := (dC, dI)) (ci := 6) (v := .ref a_o_triangle) (C := RX7) (T := TX7) (N := 15) hx hb hts iX7 hown hK hP 0 rfl rfl 4 (by decide) (hts (.fieldLink RX7 21 "PascalRowsModel" "triangle" "[I") (List.mem_of_getElem? (i := 2) rfl)) (fun _ h9 => h9) rfl dX7_takes_57 ?_
                  refine lv_sipush (v := (128 : Int32)) hx hb dX7_takes_60 (by decide) ?_
                  refine lv_iload_n hx hb dX7_takes_63 rfl (lv_at hl 2 rfl) ?_
                  refine lv_iconst (v := (1 : Int32)) hx hb dX7_takes_64 (by decide) ?_
                  refine lv_isub hx hb dX7_takes_65 ?_
                  refine lv_imul hx hb dX7_takes_66 ?_
                  refine lv_iload_n hx hb dX7_takes_67 rfl (lv_at hl 3 rfl) ?_
                  refine lv_iadd hx hb dX7_takes_68 ?_
                  refine lv_iconst (v := (1 : Int32)) hx hb dX7_takes_69 (by decide) ?_
                  refine lv_isub hx hb dX7_takes_70 ?_
                  obtain ⟨g_9, eg_9, hg_9, hr⟩ := rd_e hr
                  refine va_iald hx hb hK hP 1 0 rfl rfl hg_9 dX7_takes_71 ?_
                  refine tp_ eg_9 ?_
                  refine lv_aload_n hx hb dX7_takes_72 rfl (lv_at hl 0 rfl) ?_
                  refine va_get (D := (dC, dI)) (ci := 6) (v := .ref a_o_triangle) (C := RX7) (T := TX7) (N := 15) hx hb hts iX7 hown hK hP 0 rfl rfl 4 (by decide) (hts (.fieldLink RX7 21 "PascalRowsModel" "triangle" "[I") (List.mem_of_getElem? (i := 2) rfl)) (fun _ h9 => h9) rfl dX7_takes_73 ?_
                  refine lv_sipush (v := (128 : Int32)) hx hb dX7_takes_76 (by decide) ?_
                  refine lv_iload_n hx hb dX7_takes_79 rfl (lv_at hl 2 rfl) ?_
                  refine lv_iconst (v := (1 : Int32)) hx hb dX7_takes_80 (by decide) ?_
                  refine lv_isub hx hb dX7_takes_81 ?_
                  refine lv_imul hx hb dX7_takes_82 ?_
                  refine lv_iload_n hx hb dX7_takes_83 rfl (lv_at hl 3 rfl) ?_
                  refine lv_iadd hx hb dX7_takes_84 ?_
                  obtain ⟨g_10, eg_10, hg_10, hr⟩ := rd_e hr
                  refine va_iald hx hb hK hP 1 0 rfl rfl hg_10 dX7_takes_85 ?_
                  refine tp_ eg_10 ?_
                  refine lv_iadd hx hb dX7_takes_86 ?_
                  refine lv_iload_n hx hb dX7_takes_87 rfl (lv_at hl 1 rfl) ?_
                  obtain ⟨d_11, ed_11, hd_11, hr⟩ := md_e hr
                  refine lv_irem hx hb dX7_takes_88 hd_11 ?_
                  refine tp_ ed_11 ?_
                  obtain ⟨w_12, ew_12, hw_12, hr⟩ := wr_e hr
                  refine va_iast hx hb hK hP (hD.fst rfl) hS 1 0 rfl rfl hw_12 dX7_takes_89 (fun H locs hP _ hS => ?_)
                  rw [← ew_12] at hP
                  have hP : va_P (dC, dI) vwCl [(a_o, .inr (6, [.ref a_o_g, .ref a_o_kept, .ref a_o_was, .int o_isKept, .ref a_o_triangle, .int o_takenBy_25, .ref a_o_text, .int o_fed, .int o_place, .int o_letter, .int o_first, .int o_second, .ref a_o_sort, .ref a_o_size, .ref a_o_items])), (a_o_triangle, .inl (cI, 16384, .inl w_12))] H := hP
                  refine lv_iinc (v := (v3_25 + (1 : Int32))) (lv' := [(3, .int (v3_25 + (1 : Int32))), (0, .ref a_o), (1, .int v1_25), (2, .int v2_25)]) hx hb dX7_takes_90 hl (k := 3) rfl (congrArg (fun z => v3_25 + z) (by decide)) (by decide) rfl (fun ls hl => ?_)
                  refine lv_goto (tgt := 25) hx hb dX7_takes_93 (by decide) ?_
                  exact ih (v3_25 + (1 : Int32)) w_12 ls (lv_sub hl [1, 2, 3, 0] rfl) H locs hP hS hr
                refine lv_if_eq (tgt := 50) hx hb dX7_takes_42 (by decide) (fun c_13 => ?_) (fun c_13 => ?_)
                · exact tT_5 (Or.inl c_13)
                · refine lv_iload_n hx hb dX7_takes_45 rfl (lv_at hl 3 rfl) ?_
                  refine lv_iload_n hx hb dX7_takes_46 rfl (lv_at hl 2 rfl) ?_
                  refine lv_icmp_ne (tgt := 56) hx hb dX7_takes_47 (by decide) (fun c_14 => ?_) (fun c_14 => ?_)
                  · exact tF_8 (fun h => h.elim c_13 c_14)
                  · exact tT_5 (Or.inr c_14)
          refine hL25 v1_16 v2_16 o_takenBy_16 _ (fun xc_o_triangle_25 ls hl H locs hP hS hr => ?_) 5000 (0 : Int32) o_triangle_16 ls (lv_sub hl [1, 2, 3, 0] rfl) H locs hP hS hr
          refine lv_iinc (v := (v2_16 + (1 : Int32))) (lv' := [(2, .int (v2_16 + (1 : Int32))), (0, .ref a_o), (1, .int v1_16)]) hx hb dX7_takes_96 hl (k := 2) rfl (congrArg (fun z => v2_16 + z) (by decide)) (by decide) rfl (fun ls hl => ?_)
          refine lv_goto (tgt := 16) hx hb dX7_takes_99 (by decide) ?_
          exact ih (v2_16 + (1 : Int32)) xc_o_triangle_25 ls (lv_sub hl [1, 2, 0] rfl) H locs hP hS hr
    refine hL16 p0 p0 _ (fun xc_o_triangle_16 ls hl H locs hP hS hr => ?_) 5000 (0 : Int32) o_triangle ls (lv_sub hl [1, 2, 0] rfl) H locs hP hS hr
    obtain rfl := Option.some.inj hr
    exact hret H locs _ hP hS (fun Qc free hq hf => W.vret hx hb hrt hq hf dX7_takes_102 hlocks)
  · have hr := ite_p hr c_1
    obtain rfl := Option.some.inj hr
    exact hret H locs _ hP hS (fun Qc free hq hf => W.vret hx hb hrt hq hf dX7_takes_8 hlocks)
/-! X7_remainder -/
def rmX7_remainder : Room := { frames := 2, cells := 0, slots := 0, locals := 43 }
set_option maxHeartbeats 4000000 in
set_option maxRecDepth 100000 in
theorem k_X7_remainder (l : Launch) (dC : Nat → ClassId) (dI : Nat → Nat → Nat) (cI cJ : ClassId) (a_o : Nat) (a_o_g : Nat) (a_o_kept : Nat) (a_o_was : Nat) (a_o_triangle : Nat) (a_o_text : Nat) (a_o_sort : Nat) (a_o_size : Nat) (a_o_items : Nat) (p0 : Int32) (p1 : Int32) (o_isKept : Int32) (o_takenBy : Int32) (o_fed : Int32) (o_place : Int32) (o_letter : Int32) (o_first : Int32) (o_second : Int32) (o_g : Nat → Int32) (o_triangle : Nat → Int32) (sz : Nat) (r : Int32 × (Nat → Int32) × Int32) (hr : f_X7_remainder p0 p1 o_g o_triangle o_takenBy = some r) : Met l yX7_remainder wsX7_remainder rmX7_remainder (va_Pc [.ref a_o, .int p0, .int p1] (pM (dC, dI) cI cJ [(a_o, .inr (6, [.ref a_o_g, .ref a_o_kept, .ref a_o_was, .int o_isKept, .ref a_o_triangle, .int o_takenBy, .ref a_o_text, .int o_fed, .int o_place, .int o_letter, .int o_first, .int o_second, .ref a_o_sort, .ref a_o_size, .ref a_o_items])), (a_o_g, .inl (cI, 64, .inl o_g)), (a_o_triangle, .inl (cI, 16384, .inl o_triangle))] sz)) (qM (some (.int r.1)) (dC, dI) [(a_o, .inr (6, [.ref a_o_g, .ref a_o_kept, .ref a_o_was, .int o_isKept, .ref a_o_triangle, .int r.2.2, .ref a_o_text, .int o_fed, .int o_place, .int o_letter, .int o_first, .int o_second, .ref a_o_sort, .ref a_o_size, .ref a_o_items])), (a_o_g, .inl (cI, 64, .inl o_g)), (a_o_triangle, .inl (cI, 16384, .inl r.2.1))] (va_A [(a_o, .inr (6, [.ref a_o_g, .ref a_o_kept, .ref a_o_was, .int o_isKept, .ref a_o_triangle, .int o_takenBy, .ref a_o_text, .int o_fed, .int o_place, .int o_letter, .int o_first, .int o_second, .ref a_o_sort, .ref a_o_size, .ref a_o_items])), (a_o_g, .inl (cI, 64, .inl o_g)), (a_o_triangle, .inl (cI, 16384, .inl o_triangle))] sz)) 0 0 (va_A [(a_o, .inr (6, [.ref a_o_g, .ref a_o_kept, .ref a_o_was, .int o_isKept, .ref a_o_triangle, .int o_takenBy, .ref a_o_text, .int o_fed, .int o_place, .int o_letter, .int o_first, .int o_second, .ref a_o_sort, .ref a_o_size, .ref a_o_items])), (a_o_g, .inl (cI, 64, .inl o_g)), (a_o_triangle, .inl (cI, 16384, .inl o_triangle))] sz) := by
  refine mu_of (cc := cX7_remainder) (maxL := 3) (by decide) rfl (Nat.le_of_ble_eq_true rfl) ?_
  intro p e s m args below meth c Q ls A hx hb hml hown hts hE hP hD hA hrt hlocks hret hl
  have hK := hE.1
  have hS : va_S A s.heap s.heap [] := va_S.rf
  have hl : lv_has ls 3 [(0, .ref a_o), (1, .int p0), (2, .int p1)] := hl
  unfold f_X7_remainder at hr
  obtain ⟨H, hHe⟩ : ∃ H, H = s.heap := ⟨_, rfl⟩
  obtain ⟨locs, hLe⟩ : ∃ locs : List Loc, locs = [] := ⟨_, rfl⟩
  suffices hgo : va_P (dC, dI) vwCl [(a_o, .inr (6, [.ref a_o_g, .ref a_o_kept, .ref a_o_was, .int o_isKept, .ref a_o_triangle, .int o_takenBy, .ref a_o_text, .int o_fed, .int o_place, .int o_letter, .int o_first, .int o_second, .ref a_o_sort, .ref a_o_size, .ref a_o_items])), (a_o_g, .inl (cI, 64, .inl o_g)), (a_o_triangle, .inl (cI, 16384, .inl o_triangle))] H → va_S A s.heap H locs → W p l e rmX7_remainder s m args below meth c H locs 0 0 Q (F0 m 0 ls []) by
    subst hHe; subst hLe; exact hgo hP hS
  clear hP hS hHe hLe
  intro hP hS
  have iX7 : ∀ w ∈ wsX70, w ∈ wsX7_remainder := memr_ (big := wsX7_remainder) wsX70 [20, 21, 22, 23, 24, 25, 26, 27, 28, 29, 30, 31, 32, 33, 34] (by decide +kernel)
  refine lv_aload_n hx hb dX7_remainder_0 rfl (lv_at hl 0 rfl) ?_
  refine lv_aload_n hx hb dX7_remainder_1 rfl (lv_at hl 0 rfl) ?_
  obtain ⟨u_1, hu_1, hr⟩ := bd_e hr
  refine ro_V ⟨hx, hb, hml, hown, hts⟩ (k_X7_modulus l dC dI cI cJ a_o a_o_g a_o_kept a_o_was a_o_triangle a_o_text a_o_sort a_o_size a_o_items o_isKept o_takenBy o_fed o_place o_letter o_first o_second o_g u_1 hu_1) (cwV 0 hts gX7_remainder_X7_modulus rfl rfl rfl (by decide +kernel) ⟨Nat.le_of_ble_eq_true rfl, Nat.le_of_ble_eq_true rfl⟩) hE hP 0 rfl rfl rfl (hP.sub [0, 1] rfl) rfl hl.1 rfl (Nat.le_of_ble_eq_true rfl) dX7_remainder_2 ⟨Nat.zero_le _, Nat.zero_le _⟩ ?_
  obtain ⟨u_2, hu_2, hr⟩ := bd_e hr
  refine mu_V ⟨hx, hb, hml, hown, hts⟩ (k_X7_takes l dC dI cI cJ a_o a_o_g a_o_kept a_o_was a_o_triangle a_o_text a_o_sort a_o_size a_o_items u_1 o_isKept o_takenBy o_fed o_place o_letter o_first o_second o_triangle H.size u_2 hu_2) (cwV 1 hts gX7_remainder_X7_takes rfl rfl rfl (by decide +kernel) ⟨Nat.le_of_ble_eq_true rfl, Nat.le_of_ble_eq_true rfl⟩) hE 0 rfl rfl rfl rfl hl.1 rfl (Nat.le_of_ble_eq_true rfl) dX7_remainder_5 ⟨Nat.zero_le _, Nat.zero_le _⟩ hP (hD.fst rfl) hS hA [0, 2] [1] [1, 0, 2] rfl rfl (by decide) (by decide) rfl (by decide) (W1 := [(a_o, .inr (6, [.ref a_o_g, .ref a_o_kept, .ref a_o_was, .int o_isKept, .ref a_o_triangle, .int u_2.2, .ref a_o_text, .int o_fed, .int o_place, .int o_letter, .int o_first, .int o_second, .ref a_o_sort, .ref a_o_size, .ref a_o_items])), (a_o_g, .inl (cI, 64, .inl o_g)), (a_o_triangle, .inl (cI, 16384, .inl u_2.1))]) rfl (fun H locs hP hS => W.eq (g2 := F0 m 8 ls []) rfl ?_)
  refine lv_iload_n hx hb dX7_remainder_8 rfl (lv_at hl 1 rfl) ?_
  refine lv_i2l (v := (Int32.toInt64 p0)) hx hb dX7_remainder_9 rfl ?_
  refine lv_lconst (v := (0 : Int64)) hx hb dX7_remainder_10 (by decide) ?_
  refine lv_ldc2 (v := (127 : Int64)) hx hb hown (hts (.constantLong RX7 53 (127)) (List.mem_of_getElem? (i := 1) rfl)) dX7_remainder_11 ?_
  refine ro_S ⟨hx, hb, hml, hown, hts⟩ (k_X7_isIn l dC dI cI cJ (Int32.toInt64 p0) (0 : Int64) (127 : Int64)) (va_cwS 3 hts gX7_remainder_X7_isIn rfl rfl rfl (by decide +kernel) ⟨Nat.le_of_ble_eq_true rfl, Nat.le_of_ble_eq_true rfl⟩) hE (hP.sub [] rfl) rfl hl.1 rfl (Nat.le_of_ble_eq_true rfl) dX7_remainder_14 ⟨Nat.zero_le _, Nat.zero_le _⟩ ?_
  have tT_4 : ((¬ ((f_X7_isIn (Int32.toInt64 p0) (0 : Int64) (127 : Int64)) = 0)) ∧ (¬ ((f_X7_isIn (Int32.toInt64 p1) (0 : Int64) (Int32.toInt64 p0)) = 0))) → W p l e rmX7_remainder s m args below meth c H locs 0 0 Q (F0 m 31 ls []) := by
    intro hc_3
    have hr := ite_p hr hc_3
    refine lv_aload_n hx hb dX7_remainder_31 rfl (lv_at hl 0 rfl) ?_
    refine va_get (D := (dC, dI)) (ci := 6) (v := .ref a_o_triangle) (C := RX7) (T := TX7) (N := 15) hx hb hts iX7 hown hK hP 0 rfl rfl 4 (by decide) (hts (.fieldLink RX7 21 "PascalRowsModel" "triangle" "[I") (List.mem_of_getElem? (i := 2) rfl)) (fun _ h9 => h9) rfl dX7_remainder_32 ?_
    refine lv_sipush (v := (128 : Int32)) hx hb dX7_remainder_35 (by decide) ?_
    refine lv_iload_n hx hb dX7_remainder_38 rfl (lv_at hl 1 rfl) ?_
    refine lv_imul hx hb dX7_remainder_39 ?_
    refine lv_iload_n hx hb dX7_remainder_40 rfl (lv_at hl 2 rfl) ?_
    refine lv_iadd hx hb dX7_remainder_41 ?_
    obtain ⟨g_5, eg_5, hg_5, hr⟩ := rd_e hr
    refine va_iald hx hb hK hP 2 0 rfl rfl hg_5 dX7_remainder_42 ?_
    refine tp_ eg_5 ?_
    refine lv_goto (tgt := 47) hx hb dX7_remainder_43 (by decide) ?_
    obtain rfl := Option.some.inj hr
    exact hret H locs _ hP hS (fun Qc free hq hf => W.iret hx hb hrt hq hf dX7_remainder_47 hlocks)
  have tF_6 : ¬ ((¬ ((f_X7_isIn (Int32.toInt64 p0) (0 : Int64) (127 : Int64)) = 0)) ∧ (¬ ((f_X7_isIn (Int32.toInt64 p1) (0 : Int64) (Int32.toInt64 p0)) = 0))) → W p l e rmX7_remainder s m args below meth c H locs 0 0 Q (F0 m 46 ls []) := by
    intro hc_3
    have hr := ite_n hr hc_3
    refine lv_iconst (v := (0 : Int32)) hx hb dX7_remainder_46 (by decide) ?_
    obtain rfl := Option.some.inj hr
    exact hret H locs _ hP hS (fun Qc free hq hf => W.iret hx hb hrt hq hf dX7_remainder_47 hlocks)
  refine lv_if_eq (tgt := 46) hx hb dX7_remainder_17 (by decide) (fun c_7 => ?_) (fun c_7 => ?_)
  · exact tF_6 (fun h => (fun h => h c_7) h.1)
  · refine lv_iload_n hx hb dX7_remainder_20 rfl (lv_at hl 2 rfl) ?_
    refine lv_i2l (v := (Int32.toInt64 p1)) hx hb dX7_remainder_21 rfl ?_
    refine lv_lconst (v := (0 : Int64)) hx hb dX7_remainder_22 (by decide) ?_
    refine lv_iload_n hx hb dX7_remainder_23 rfl (lv_at hl 1 rfl) ?_
    refine lv_i2l (v := (Int32.toInt64 p0)) hx hb dX7_remainder_24 rfl ?_
    refine ro_S ⟨hx, hb, hml, hown, hts⟩ (k_X7_isIn l dC dI cI cJ (Int32.toInt64 p1) (0 : Int64) (Int32.toInt64 p0)) (va_cwS 3 hts gX7_remainder_X7_isIn rfl rfl rfl (by decide +kernel) ⟨Nat.le_of_ble_eq_true rfl, Nat.le_of_ble_eq_true rfl⟩) hE (hP.sub [] rfl) rfl hl.1 rfl (Nat.le_of_ble_eq_true rfl) dX7_remainder_25 ⟨Nat.zero_le _, Nat.zero_le _⟩ ?_
    refine lv_if_eq (tgt := 46) hx hb dX7_remainder_28 (by decide) (fun c_8 => ?_) (fun c_8 => ?_)
    · exact tF_6 (fun h => (fun h => h c_8) h.2)
    · exact tT_4 ⟨c_7, c_8⟩
/-! X7_carries -/
def rmX7_carries : Room := { frames := 0, cells := 0, slots := 0, locals := 0 }
set_option maxHeartbeats 4000000 in
set_option maxRecDepth 100000 in
theorem k_X7_carries (l : Launch) (dC : Nat → ClassId) (dI : Nat → Nat → Nat) (cI cJ : ClassId) (a_o : Nat) (a_o_g : Nat) (a_o_kept : Nat) (a_o_was : Nat) (a_o_triangle : Nat) (a_o_text : Nat) (a_o_sort : Nat) (a_o_size : Nat) (a_o_items : Nat) (p0 : Int32) (p1 : Int32) (o_isKept : Int32) (o_takenBy : Int32) (o_fed : Int32) (o_place : Int32) (o_letter : Int32) (o_first : Int32) (o_second : Int32) (o_g : Nat → Int32) (r : Int32) (hr : f_X7_carries p0 p1 o_g = some r) : Met l yX7_carries wsX7_carries rmX7_carries (va_Pc [.ref a_o, .int p0, .int p1] (pE (dC, dI) cI cJ [(a_o, .inr (6, [.ref a_o_g, .ref a_o_kept, .ref a_o_was, .int o_isKept, .ref a_o_triangle, .int o_takenBy, .ref a_o_text, .int o_fed, .int o_place, .int o_letter, .int o_first, .int o_second, .ref a_o_sort, .ref a_o_size, .ref a_o_items])), (a_o_g, .inl (cI, 64, .inl o_g))])) (rq (.int r)) 0 0 nofree := by
  refine ro_of_i (cc := cX7_carries) (maxL := 8) (by decide) rfl (Nat.le_of_ble_eq_true rfl) ?_
  intro p e s m args below meth c Q ls hx hb hml hown hts hE hP hret hl
  have hK := hE.1
  have hl : lv_has ls 8 [(0, .ref a_o), (1, .int p0), (2, .int p1)] := hl
  unfold f_X7_carries at hr
  have iX7 : ∀ w ∈ wsX70, w ∈ wsX7_carries := memr_ (big := wsX7_carries) wsX70 [2, 3, 4, 5, 6, 7, 8, 9, 10, 11, 12, 13, 14, 15, 16] (by decide +kernel)
  refine lv_aload_n hx hb dX7_carries_0 rfl (lv_at hl 0 rfl) ?_
  refine va_get (D := (dC, dI)) (ci := 6) (v := .ref a_o_g) (C := RX7) (T := TX7) (N := 15) hx hb hts iX7 hown hK hP 0 rfl rfl 0 (by decide) (hts (.fieldLink RX7 11 "PascalRowsModel" "g" "[I") (List.mem_of_getElem? (i := 1) rfl)) (fun _ h9 => h9) rfl dX7_carries_1 ?_
  refine lv_iconst (v := (0 : Int32)) hx hb dX7_carries_4 (by decide) ?_
  obtain ⟨g_1, eg_1, hg_1, hr⟩ := rd_e hr
  refine va_iald hx hb hK hP 1 0 rfl rfl hg_1 dX7_carries_5 ?_
  refine tp_ eg_1 ?_
  refine lv_istore_n (lv' := [(3, .int g_1), (0, .ref a_o), (1, .int p0), (2, .int p1)]) hx hb dX7_carries_6 rfl hl (by decide) rfl (fun ls hl => ?_)
  refine lv_iload_n hx hb dX7_carries_7 rfl (lv_at hl 3 rfl) ?_
  refine lv_istore (lv' := [(4, .int p1), (3, .int g_1), (0, .ref a_o), (1, .int p0), (2, .int p1)]) hx hb dX7_carries_8 hl (by decide) rfl (fun ls hl => ?_)
  refine lv_iload_n hx hb dX7_carries_10 rfl (lv_at hl 3 rfl) ?_
  refine lv_iload_n hx hb dX7_carries_11 rfl (lv_at hl 4 rfl) ?_
  refine lv_isub hx hb dX7_carries_12 ?_
  refine lv_istore (lv' := [(5, .int (p0 - p1)), (4, .int p1), (3, .int g_1), (0, .ref a_o), (1, .int p0), (2, .int p1)]) hx hb dX7_carries_13 hl (by decide) rfl (fun ls hl => ?_)
  refine lv_iconst (v := (0 : Int32)) hx hb dX7_carries_15 (by decide) ?_
  refine lv_istore (lv' := [(6, .int (0 : Int32)), (5, .int (p0 - p1)), (4, .int p1), (3, .int g_1), (0, .ref a_o), (1, .int p0), (2, .int p1)]) hx hb dX7_carries_16 hl (by decide) rfl (fun ls hl => ?_)
  refine lv_iconst (v := (0 : Int32)) hx hb dX7_carries_18 (by decide) ?_
  refine lv_istore (lv' := [(7, .int (0 : Int32)), (6, .int (0 : Int32)), (5, .int (p0 - p1)), (4, .int p1), (3, .int g_1), (0, .ref a_o), (1, .int p0), (2, .int p1)]) hx hb dX7_carries_19 hl (by decide) rfl (fun ls hl => ?_)
  have hL21 : ∀ (v3_21 : Int32) (k_21 : Int32 → Option (Int32)) (hk : ∀ (x7_21 : Int32) (ls : Array Slot), lv_has ls 8 [(7, .int x7_21)] → k_21 x7_21 = some r → W p l e rmX7_carries s m args below meth c s.heap [] 0 0 Q (F0 m 76 ls [])) (fuel : Nat) (v4_21 : Int32) (v5_21 : Int32) (v6_21 : Int32) (v7_21 : Int32) (ls : Array Slot), lv_has ls 8 [(3, .int v3_21), (4, .int v4_21), (5, .int v5_21), (6, .int v6_21), (7, .int v7_21)] → f_X7_carries_L21 k_21 v3_21 fuel v4_21 v5_21 v6_21 v7_21 = some r → W p l e rmX7_carries s m args below meth c s.heap [] 0 0 Q (F0 m 21 ls []) := by
    intro v3_21 k_21 hk fuel
    induction fuel with
    | zero =>
      intro v4_21 v5_21 v6_21 v7_21 ls hl hr
      rw [f_X7_carries_L21_z] at hr
      cases hr
    | succ fuel ih =>
      intro v4_21 v5_21 v6_21 v7_21 ls hl hr
      rw [f_X7_carries_L21_s] at hr
      refine lv_iload hx hb dX7_carries_21 (lv_at hl 1 rfl) ?_
      have tT_3 : ((0 < v4_21) ∨ (¬ (v5_21 ≤ 0))) → W p l e rmX7_carries s m args below meth c s.heap [] 0 0 Q (F0 m 31 ls []) := by
        intro hc_2
        have hr := ite_p hr hc_2
        refine lv_iload hx hb dX7_carries_31 (lv_at hl 1 rfl) ?_
        refine lv_iload_n hx hb dX7_carries_33 rfl (lv_at hl 0 rfl) ?_
        obtain ⟨d_4, ed_4, hd_4, hr⟩ := md_e hr
        refine lv_irem hx hb dX7_carries_34 hd_4 ?_
        refine tp_ ed_4 ?_
        refine lv_iload hx hb dX7_carries_35 (lv_at hl 2 rfl) ?_
        refine lv_iload_n hx hb dX7_carries_37 rfl (lv_at hl 0 rfl) ?_
        obtain ⟨d_5, ed_5, hd_5, hr⟩ := md_e hr
        refine lv_irem hx hb dX7_carries_38 hd_5 ?_
        refine tp_ ed_5 ?_
        refine lv_iadd hx hb dX7_carries_39 ?_
        refine lv_iload hx hb dX7_carries_40 (lv_at hl 3 rfl) ?_
        refine lv_iadd hx hb dX7_carries_42 ?_
        refine lv_iload_n hx hb dX7_carries_43 rfl (lv_at hl 0 rfl) ?_
        have hJ_6 : ∀ (y_7 : Int32) (ey_7 : y_7 = (if (¬ (((d_4 + d_5) + v6_21) < v3_21)) then (1 : Int32) else (0 : Int32))) (ls : Array Slot), lv_has ls 8 [(3, .int v3_21), (4, .int v4_21), (5, .int v5_21), (7, .int v7_21)] → W p l e rmX7_carries s m args below meth c s.heap [] 0 0 Q (F0 m 52 ls [.int y_7]) := by
          intro y_7 ey_7 ls hl
          have hr := qn_e hr ey_7
          refine lv_istore (lv' := [(6, .int y_7), (3, .int v3_21), (4, .int v4_21), (5, .int v5_21), (7, .int v7_21)]) hx hb dX7_carries_52 hl (by decide) rfl (fun ls hl => ?_)
          refine lv_iload hx hb dX7_carries_54 (lv_at hl 4 rfl) ?_
          refine lv_iload hx hb dX7_carries_56 (lv_at hl 0 rfl) ?_
          refine lv_iadd hx hb dX7_carries_58 ?_
          refine lv_istore (lv' := [(7, .int (v7_21 + y_7)), (6, .int y_7), (3, .int v3_21), (4, .int v4_21), (5, .int v5_21)]) hx hb dX7_carries_59 hl (by decide) rfl (fun ls hl => ?_)
          refine lv_iload hx hb dX7_carries_61 (lv_at hl 3 rfl) ?_
          refine lv_iload_n hx hb dX7_carries_63 rfl (lv_at hl 2 rfl) ?_
          obtain ⟨d_8, ed_8, hd_8, hr⟩ := dv_e hr
          refine lv_idiv hx hb dX7_carries_64 hd_8 ?_
          refine tp_ ed_8 ?_
          refine lv_istore (lv' := [(4, .int d_8), (7, .int (v7_21 + y_7)), (6, .int y_7), (3, .int v3_21), (5, .int v5_21)]) hx hb dX7_carries_65 hl (by decide) rfl (fun ls hl => ?_)
          refine lv_iload hx hb dX7_carries_67 (lv_at hl 4 rfl) ?_
          refine lv_iload_n hx hb dX7_carries_69 rfl (lv_at hl 3 rfl) ?_
          obtain ⟨d_9, ed_9, hd_9, hr⟩ := dv_e hr
          refine lv_idiv hx hb dX7_carries_70 hd_9 ?_
          refine tp_ ed_9 ?_
          refine lv_istore (lv' := [(5, .int d_9), (4, .int d_8), (7, .int (v7_21 + y_7)), (6, .int y_7), (3, .int v3_21)]) hx hb dX7_carries_71 hl (by decide) rfl (fun ls hl => ?_)
          refine lv_goto (tgt := 21) hx hb dX7_carries_73 (by decide) ?_
          exact ih d_8 d_9 y_7 (v7_21 + y_7) ls (lv_sub hl [4, 1, 0, 3, 2] rfl) hr
        refine lv_icmp_lt (tgt := 51) hx hb dX7_carries_44 (by decide) (fun c_10 => ?_) (fun c_10 => ?_)
        · refine lv_iconst (v := (0 : Int32)) hx hb dX7_carries_51 (by decide) ?_
          exact hJ_6 _ (if_neg (fun h => h c_10)).symm ls (lv_sub hl [0, 1, 2, 4] rfl)
        · refine lv_iconst (v := (1 : Int32)) hx hb dX7_carries_47 (by decide) ?_
          refine lv_goto (tgt := 52) hx hb dX7_carries_48 (by decide) ?_
          exact hJ_6 _ (if_pos c_10).symm ls (lv_sub hl [0, 1, 2, 4] rfl)
      have tF_11 : ¬ ((0 < v4_21) ∨ (¬ (v5_21 ≤ 0))) → W p l e rmX7_carries s m args below meth c s.heap [] 0 0 Q (F0 m 76 ls []) := by
        intro hc_2
        have hr := ite_n hr hc_2
        exact hk v7_21 ls (lv_sub hl [4] rfl) hr
      refine lv_if_gt (tgt := 31) hx hb dX7_carries_23 (by decide) (fun c_12 => ?_) (fun c_12 => ?_)
      · exact tT_3 (Or.inl c_12)
      · refine lv_iload hx hb dX7_carries_26 (lv_at hl 2 rfl) ?_
        refine lv_if_le (tgt := 76) hx hb dX7_carries_28 (by decide) (fun c_13 => ?_) (fun c_13 => ?_)
        · exact tF_11 (fun h => h.elim c_12 (fun h => h c_13))
        · exact tT_3 (Or.inr c_13)
  refine hL21 g_1 _ (fun x7_21 ls hl hr => ?_) 5000 p1 (p0 - p1) (0 : Int32) (0 : Int32) ls (lv_sub hl [4, 3, 2, 1, 0] rfl) hr
  refine lv_iload hx hb dX7_carries_76 (lv_at hl 0 rfl) ?_
  exact hret 78 ls _ dX7_carries_78 (Option.some.inj hr)
/-! X7_small -/
def rmX7_small : Room := { frames := 0, cells := 0, slots := 0, locals := 0 }
set_option maxHeartbeats 4000000 in
set_option maxRecDepth 100000 in
theorem k_X7_small (l : Launch) (dC : Nat → ClassId) (dI : Nat → Nat → Nat) (cI cJ : ClassId) (p0 : Int32) (p1 : Int32) (r : Int32) (hr : f_X7_small p0 p1 = some r) : Met l yX7_small wsX7_small rmX7_small (va_Pc [.int p0, .int p1] (pE (dC, dI) cI cJ [])) (rq (.int r)) 0 0 nofree := by
  refine ro_of_i (cc := cX7_small) (maxL := 4) (by decide) rfl (Nat.le_of_ble_eq_true rfl) ?_
  intro p e s m args below meth c Q ls hx hb hml hown hts hE hP hret hl
  have hK := hE.1
  have hl : lv_has ls 4 [(0, .int p0), (1, .int p1)] := hl
  unfold f_X7_small at hr
  refine lv_iconst (v := (1 : Int32)) hx hb dX7_small_0 (by decide) ?_
  refine lv_istore_n (lv' := [(2, .int (1 : Int32)), (0, .int p0), (1, .int p1)]) hx hb dX7_small_1 rfl hl (by decide) rfl (fun ls hl => ?_)
  refine lv_iconst (v := (1 : Int32)) hx hb dX7_small_2 (by decide) ?_
  refine lv_istore_n (lv' := [(3, .int (1 : Int32)), (2, .int (1 : Int32)), (0, .int p0), (1, .int p1)]) hx hb dX7_small_3 rfl hl (by decide) rfl (fun ls hl => ?_)
  have hL4 : ∀ (v0_4 : Int32) (v1_4 : Int32) (k_4 : Int32 → Option (Int32)) (hk : ∀ (x2_4 : Int32) (ls : Array Slot), lv_has ls 4 [(0, .int v0_4), (1, .int v1_4), (2, .int x2_4)] → k_4 x2_4 = some r → W p l e rmX7_small s m args below meth c s.heap [] 0 0 Q (F0 m 25 ls [])) (fuel : Nat) (v2_4 : Int32) (v3_4 : Int32) (ls : Array Slot), lv_has ls 4 [(0, .int v0_4), (1, .int v1_4), (2, .int v2_4), (3, .int v3_4)] → f_X7_small_L4 k_4 v0_4 v1_4 fuel v2_4 v3_4 = some r → W p l e rmX7_small s m args below meth c s.heap [] 0 0 Q (F0 m 4 ls []) := by
    intro v0_4 v1_4 k_4 hk fuel
    induction fuel with
    | zero =>
      intro v2_4 v3_4 ls hl hr
      rw [f_X7_small_L4_z] at hr
      cases hr
    | succ fuel ih =>
      intro v2_4 v3_4 ls hl hr
      rw [f_X7_small_L4_s] at hr
      refine lv_iload_n hx hb dX7_small_4 rfl (lv_at hl 3 rfl) ?_
      refine lv_iload_n hx hb dX7_small_5 rfl (lv_at hl 1 rfl) ?_
      refine lv_icmp_gt (tgt := 25) hx hb dX7_small_6 (by decide) (fun c_1 => ?_) (fun c_1 => ?_)
      · have hr := ite_p hr c_1
        exact hk v2_4 ls (lv_sub hl [0, 1, 2] rfl) hr
      · have hr := ite_n hr c_1
        refine lv_iload_n hx hb dX7_small_9 rfl (lv_at hl 2 rfl) ?_
        refine lv_iload_n hx hb dX7_small_10 rfl (lv_at hl 0 rfl) ?_
        refine lv_iload_n hx hb dX7_small_11 rfl (lv_at hl 1 rfl) ?_
        refine lv_isub hx hb dX7_small_12 ?_
        refine lv_iload_n hx hb dX7_small_13 rfl (lv_at hl 3 rfl) ?_
        refine lv_iadd hx hb dX7_small_14 ?_
        refine lv_imul hx hb dX7_small_15 ?_
        refine lv_iload_n hx hb dX7_small_16 rfl (lv_at hl 3 rfl) ?_
        obtain ⟨d_2, ed_2, hd_2, hr⟩ := dv_e hr
        refine lv_idiv hx hb dX7_small_17 hd_2 ?_
        refine tp_ ed_2 ?_
        refine lv_istore_n (lv' := [(2, .int d_2), (0, .int v0_4), (1, .int v1_4), (3, .int v3_4)]) hx hb dX7_small_18 rfl hl (by decide) rfl (fun ls hl => ?_)
        refine lv_iinc (v := (v3_4 + (1 : Int32))) (lv' := [(3, .int (v3_4 + (1 : Int32))), (2, .int d_2), (0, .int v0_4), (1, .int v1_4)]) hx hb dX7_small_19 hl (k := 3) rfl (congrArg (fun z => v3_4 + z) (by decide)) (by decide) rfl (fun ls hl => ?_)
        refine lv_goto (tgt := 4) hx hb dX7_small_22 (by decide) ?_
        exact ih d_2 (v3_4 + (1 : Int32)) ls (lv_sub hl [2, 3, 1, 0] rfl) hr
  refine hL4 p0 p1 _ (fun x2_4 ls hl hr => ?_) 5000 (1 : Int32) (1 : Int32) ls (lv_sub hl [2, 3, 1, 0] rfl) hr
  refine lv_iload_n hx hb dX7_small_25 rfl (lv_at hl 1 rfl) ?_
  refine lv_iload_n hx hb dX7_small_26 rfl (lv_at hl 0 rfl) ?_
  have hJ_3 : ∀ (y_4 : Int32) (ey_4 : y_4 = (if (p1 ≤ p0) then x2_4 else (0 : Int32))) (ls : Array Slot), lv_has ls 4 [] → W p l e rmX7_small s m args below meth c s.heap [] 0 0 Q (F0 m 35 ls [.int y_4]) := by
    intro y_4 ey_4 ls hl
    subst ey_4
    exact hret 35 ls _ dX7_small_35 (Option.some.inj hr)
  refine lv_icmp_le (tgt := 34) hx hb dX7_small_27 (by decide) (fun c_5 => ?_) (fun c_5 => ?_)
  · refine lv_iload_n hx hb dX7_small_34 rfl (lv_at hl 2 rfl) ?_
    exact hJ_3 _ (if_pos c_5).symm ls (lv_sub hl [] rfl)
  · refine lv_iconst (v := (0 : Int32)) hx hb dX7_small_30 (by decide) ?_
    refine lv_goto (tgt := 35) hx hb dX7_small_31 (by decide) ?_
    exact hJ_3 _ (if_neg c_5).symm ls (lv_sub hl [] rfl)
/-! X7_lucas -/
def rmX7_lucas : Room := { frames := 1, cells := 0, slots := 0, locals := 23 }
set_option maxHeartbeats 4000000 in
set_option maxRecDepth 100000 in
theorem k_X7_lucas (l : Launch) (dC : Nat → ClassId) (dI : Nat → Nat → Nat) (cI cJ : ClassId) (a_o : Nat) (a_o_g : Nat) (a_o_kept : Nat) (a_o_was : Nat) (a_o_triangle : Nat) (a_o_text : Nat) (a_o_sort : Nat) (a_o_size : Nat) (a_o_items : Nat) (p0 : Int32) (p1 : Int32) (o_isKept : Int32) (o_takenBy : Int32) (o_fed : Int32) (o_place : Int32) (o_letter : Int32) (o_first : Int32) (o_second : Int32) (o_g : Nat → Int32) (r : Int32) (hr : f_X7_lucas p0 p1 o_g = some r) : Met l yX7_lucas wsX7_lucas rmX7_lucas (va_Pc [.ref a_o, .int p0, .int p1] (pE (dC, dI) cI cJ [(a_o, .inr (6, [.ref a_o_g, .ref a_o_kept, .ref a_o_was, .int o_isKept, .ref a_o_triangle, .int o_takenBy, .ref a_o_text, .int o_fed, .int o_place, .int o_letter, .int o_first, .int o_second, .ref a_o_sort, .ref a_o_size, .ref a_o_items])), (a_o_g, .inl (cI, 64, .inl o_g))])) (rq (.int r)) 0 0 nofree := by
  refine ro_of_i (cc := cX7_lucas) (maxL := 6) (by decide) rfl (Nat.le_of_ble_eq_true rfl) ?_
  intro p e s m args below meth c Q ls hx hb hml hown hts hE hP hret hl
  have hK := hE.1
  have hl : lv_has ls 6 [(0, .ref a_o), (1, .int p0), (2, .int p1)] := hl
  unfold f_X7_lucas at hr
  have iX7 : ∀ w ∈ wsX70, w ∈ wsX7_lucas := memr_ (big := wsX7_lucas) wsX70 [6, 7, 8, 9, 10, 11, 12, 13, 14, 15, 16, 17, 18, 19, 20] (by decide +kernel)
  refine lv_iconst (v := (1 : Int32)) hx hb dX7_lucas_0 (by decide) ?_
  refine lv_istore_n (lv' := [(3, .int (1 : Int32)), (0, .ref a_o), (1, .int p0), (2, .int p1)]) hx hb dX7_lucas_1 rfl hl (by decide) rfl (fun ls hl => ?_)
  refine lv_iload_n hx hb dX7_lucas_2 rfl (lv_at hl 2 rfl) ?_
  refine lv_istore (lv' := [(4, .int p0), (3, .int (1 : Int32)), (0, .ref a_o), (1, .int p0), (2, .int p1)]) hx hb dX7_lucas_3 hl (by decide) rfl (fun ls hl => ?_)
  refine lv_iload_n hx hb dX7_lucas_5 rfl (lv_at hl 4 rfl) ?_
  refine lv_istore (lv' := [(5, .int p1), (4, .int p0), (3, .int (1 : Int32)), (0, .ref a_o), (1, .int p0), (2, .int p1)]) hx hb dX7_lucas_6 hl (by decide) rfl (fun ls hl => ?_)
  have hL8 : ∀  (k_8 : Int32 → Option (Int32)) (hk : ∀ (x3_8 : Int32) (ls : Array Slot), lv_has ls 6 [(0, .ref a_o), (3, .int x3_8)] → k_8 x3_8 = some r → W p l e rmX7_lucas s m args below meth c s.heap [] 0 0 Q (F0 m 74 ls [])) (fuel : Nat) (v3_8 : Int32) (v4_8 : Int32) (v5_8 : Int32) (ls : Array Slot), lv_has ls 6 [(0, .ref a_o), (3, .int v3_8), (4, .int v4_8), (5, .int v5_8)] → f_X7_lucas_L8 k_8 o_g fuel v3_8 v4_8 v5_8 = some r → W p l e rmX7_lucas s m args below meth c s.heap [] 0 0 Q (F0 m 8 ls []) := by
    intro k_8 hk fuel
    induction fuel with
    | zero =>
      intro v3_8 v4_8 v5_8 ls hl hr
      rw [f_X7_lucas_L8_z] at hr
      cases hr
    | succ fuel ih =>
      intro v3_8 v4_8 v5_8 ls hl hr
      rw [f_X7_lucas_L8_s] at hr
      refine lv_iload hx hb dX7_lucas_8 (lv_at hl 2 rfl) ?_
      have tT_2 : ((0 < v4_8) ∨ (¬ (v5_8 ≤ 0))) → W p l e rmX7_lucas s m args below meth c s.heap [] 0 0 Q (F0 m 18 ls []) := by
        intro hc_1
        have hr := ite_p hr hc_1
        refine lv_iload_n hx hb dX7_lucas_18 rfl (lv_at hl 1 rfl) ?_
        refine lv_iload hx hb dX7_lucas_19 (lv_at hl 2 rfl) ?_
        refine lv_aload_n hx hb dX7_lucas_21 rfl (lv_at hl 0 rfl) ?_
        refine va_get (D := (dC, dI)) (ci := 6) (v := .ref a_o_g) (C := RX7) (T := TX7) (N := 15) hx hb hts iX7 hown hK hP 0 rfl rfl 0 (by decide) (hts (.fieldLink RX7 11 "PascalRowsModel" "g" "[I") (List.mem_of_getElem? (i := 1) rfl)) (fun _ h9 => h9) rfl dX7_lucas_22 ?_
        refine lv_iconst (v := (0 : Int32)) hx hb dX7_lucas_25 (by decide) ?_
        obtain ⟨g_3, eg_3, hg_3, hr⟩ := rd_e hr
        refine va_iald hx hb hK hP 1 0 rfl rfl hg_3 dX7_lucas_26 ?_
        refine tp_ eg_3 ?_
        obtain ⟨d_4, ed_4, hd_4, hr⟩ := md_e hr
        refine lv_irem hx hb dX7_lucas_27 hd_4 ?_
        refine tp_ ed_4 ?_
        refine lv_iload hx hb dX7_lucas_28 (lv_at hl 3 rfl) ?_
        refine lv_aload_n hx hb dX7_lucas_30 rfl (lv_at hl 0 rfl) ?_
        refine va_get (D := (dC, dI)) (ci := 6) (v := .ref a_o_g) (C := RX7) (T := TX7) (N := 15) hx hb hts iX7 hown hK hP 0 rfl rfl 0 (by decide) (hts (.fieldLink RX7 11 "PascalRowsModel" "g" "[I") (List.mem_of_getElem? (i := 1) rfl)) (fun _ h9 => h9) rfl dX7_lucas_31 ?_
        refine lv_iconst (v := (0 : Int32)) hx hb dX7_lucas_34 (by decide) ?_
        obtain ⟨g_5, eg_5, hg_5, hr⟩ := rd_e hr
        refine va_iald hx hb hK hP 1 0 rfl rfl hg_5 dX7_lucas_35 ?_
        refine tp_ eg_5 ?_
        obtain ⟨d_6, ed_6, hd_6, hr⟩ := md_e hr
        refine lv_irem hx hb dX7_lucas_36 hd_6 ?_
        refine tp_ ed_6 ?_
        obtain ⟨u_7, hu_7, hr⟩ := bd_e hr
        refine ro_S ⟨hx, hb, hml, hown, hts⟩ (k_X7_small l dC dI cI cJ d_4 d_6 u_7 hu_7) (va_cwS 2 hts gX7_lucas_X7_small rfl rfl rfl (by decide +kernel) ⟨Nat.le_of_ble_eq_true rfl, Nat.le_of_ble_eq_true rfl⟩) hE (hP.sub [] rfl) rfl hl.1 rfl (Nat.le_of_ble_eq_true rfl) dX7_lucas_37 ⟨Nat.zero_le _, Nat.zero_le _⟩ ?_
        refine lv_imul hx hb dX7_lucas_40 ?_
        refine lv_aload_n hx hb dX7_lucas_41 rfl (lv_at hl 0 rfl) ?_
        refine va_get (D := (dC, dI)) (ci := 6) (v := .ref a_o_g) (C := RX7) (T := TX7) (N := 15) hx hb hts iX7 hown hK hP 0 rfl rfl 0 (by decide) (hts (.fieldLink RX7 11 "PascalRowsModel" "g" "[I") (List.mem_of_getElem? (i := 1) rfl)) (fun _ h9 => h9) rfl dX7_lucas_42 ?_
        refine lv_iconst (v := (0 : Int32)) hx hb dX7_lucas_45 (by decide) ?_
        obtain ⟨g_8, eg_8, hg_8, hr⟩ := rd_e hr
        refine va_iald hx hb hK hP 1 0 rfl rfl hg_8 dX7_lucas_46 ?_
        refine tp_ eg_8 ?_
        obtain ⟨d_9, ed_9, hd_9, hr⟩ := md_e hr
        refine lv_irem hx hb dX7_lucas_47 hd_9 ?_
        refine tp_ ed_9 ?_
        refine lv_istore_n (lv' := [(3, .int d_9), (0, .ref a_o), (4, .int v4_8), (5, .int v5_8)]) hx hb dX7_lucas_48 rfl hl (by decide) rfl (fun ls hl => ?_)
        refine lv_iload hx hb dX7_lucas_49 (lv_at hl 2 rfl) ?_
        refine lv_aload_n hx hb dX7_lucas_51 rfl (lv_at hl 1 rfl) ?_
        refine va_get (D := (dC, dI)) (ci := 6) (v := .ref a_o_g) (C := RX7) (T := TX7) (N := 15) hx hb hts iX7 hown hK hP 0 rfl rfl 0 (by decide) (hts (.fieldLink RX7 11 "PascalRowsModel" "g" "[I") (List.mem_of_getElem? (i := 1) rfl)) (fun _ h9 => h9) rfl dX7_lucas_52 ?_
        refine lv_iconst (v := (0 : Int32)) hx hb dX7_lucas_55 (by decide) ?_
        obtain ⟨g_10, eg_10, hg_10, hr⟩ := rd_e hr
        refine va_iald hx hb hK hP 1 0 rfl rfl hg_10 dX7_lucas_56 ?_
        refine tp_ eg_10 ?_
        obtain ⟨d_11, ed_11, hd_11, hr⟩ := dv_e hr
        refine lv_idiv hx hb dX7_lucas_57 hd_11 ?_
        refine tp_ ed_11 ?_
        refine lv_istore (lv' := [(4, .int d_11), (3, .int d_9), (0, .ref a_o), (5, .int v5_8)]) hx hb dX7_lucas_58 hl (by decide) rfl (fun ls hl => ?_)
        refine lv_iload hx hb dX7_lucas_60 (lv_at hl 3 rfl) ?_
        refine lv_aload_n hx hb dX7_lucas_62 rfl (lv_at hl 2 rfl) ?_
        refine va_get (D := (dC, dI)) (ci := 6) (v := .ref a_o_g) (C := RX7) (T := TX7) (N := 15) hx hb hts iX7 hown hK hP 0 rfl rfl 0 (by decide) (hts (.fieldLink RX7 11 "PascalRowsModel" "g" "[I") (List.mem_of_getElem? (i := 1) rfl)) (fun _ h9 => h9) rfl dX7_lucas_63 ?_
        refine lv_iconst (v := (0 : Int32)) hx hb dX7_lucas_66 (by decide) ?_
        obtain ⟨g_12, eg_12, hg_12, hr⟩ := rd_e hr
        refine va_iald hx hb hK hP 1 0 rfl rfl hg_12 dX7_lucas_67 ?_
        refine tp_ eg_12 ?_
        obtain ⟨d_13, ed_13, hd_13, hr⟩ := dv_e hr
        refine lv_idiv hx hb dX7_lucas_68 hd_13 ?_
        refine tp_ ed_13 ?_
        refine lv_istore (lv' := [(5, .int d_13), (4, .int d_11), (3, .int d_9), (0, .ref a_o)]) hx hb dX7_lucas_69 hl (by decide) rfl (fun ls hl => ?_)
        refine lv_goto (tgt := 8) hx hb dX7_lucas_71 (by decide) ?_
        exact ih d_9 d_11 d_13 ls (lv_sub hl [3, 2, 1, 0] rfl) hr
      have tF_14 : ¬ ((0 < v4_8) ∨ (¬ (v5_8 ≤ 0))) → W p l e rmX7_lucas s m args below meth c s.heap [] 0 0 Q (F0 m 74 ls []) := by
        intro hc_1
        have hr := ite_n hr hc_1
        exact hk v3_8 ls (lv_sub hl [0, 1] rfl) hr
      refine lv_if_gt (tgt := 18) hx hb dX7_lucas_10 (by decide) (fun c_15 => ?_) (fun c_15 => ?_)
      · exact tT_2 (Or.inl c_15)
      · refine lv_iload hx hb dX7_lucas_13 (lv_at hl 3 rfl) ?_
        refine lv_if_le (tgt := 74) hx hb dX7_lucas_15 (by decide) (fun c_16 => ?_) (fun c_16 => ?_)
        · exact tF_14 (fun h => h.elim c_15 (fun h => h c_16))
        · exact tT_2 (Or.inr c_16)
  refine hL8  _ (fun x3_8 ls hl hr => ?_) 5000 (1 : Int32) p0 p1 ls (lv_sub hl [3, 2, 1, 0] rfl) hr
  refine lv_iload_n hx hb dX7_lucas_74 rfl (lv_at hl 1 rfl) ?_
  refine lv_aload_n hx hb dX7_lucas_75 rfl (lv_at hl 0 rfl) ?_
  refine va_get (D := (dC, dI)) (ci := 6) (v := .ref a_o_g) (C := RX7) (T := TX7) (N := 15) hx hb hts iX7 hown hK hP 0 rfl rfl 0 (by decide) (hts (.fieldLink RX7 11 "PascalRowsModel" "g" "[I") (List.mem_of_getElem? (i := 1) rfl)) (fun _ h9 => h9) rfl dX7_lucas_76 ?_
  refine lv_iconst (v := (0 : Int32)) hx hb dX7_lucas_79 (by decide) ?_
  obtain ⟨g_17, eg_17, hg_17, hr⟩ := rd_e hr
  refine va_iald hx hb hK hP 1 0 rfl rfl hg_17 dX7_lucas_80 ?_
  refine tp_ eg_17 ?_
  obtain ⟨d_18, ed_18, hd_18, hr⟩ := md_e hr
  refine lv_irem hx hb dX7_lucas_81 hd_18 ?_
  refine tp_ ed_18 ?_
  exact hret 82 ls _ dX7_lucas_82 (Option.some.inj hr)
/-! X7_legendre -/
def rmX7_legendre : Room := { frames := 0, cells := 0, slots := 0, locals := 0 }
set_option maxHeartbeats 4000000 in
set_option maxRecDepth 100000 in
theorem k_X7_legendre (l : Launch) (dC : Nat → ClassId) (dI : Nat → Nat → Nat) (cI cJ : ClassId) (a_o : Nat) (a_o_g : Nat) (a_o_kept : Nat) (a_o_was : Nat) (a_o_triangle : Nat) (a_o_text : Nat) (a_o_sort : Nat) (a_o_size : Nat) (a_o_items : Nat) (p0 : Int32) (p1 : Int32) (o_isKept : Int32) (o_takenBy : Int32) (o_fed : Int32) (o_place : Int32) (o_letter : Int32) (o_first : Int32) (o_second : Int32) (o_g : Nat → Int32) (r : Int32) (hr : f_X7_legendre p0 p1 o_g = some r) : Met l yX7_legendre wsX7_legendre rmX7_legendre (va_Pc [.ref a_o, .int p0, .int p1] (pE (dC, dI) cI cJ [(a_o, .inr (6, [.ref a_o_g, .ref a_o_kept, .ref a_o_was, .int o_isKept, .ref a_o_triangle, .int o_takenBy, .ref a_o_text, .int o_fed, .int o_place, .int o_letter, .int o_first, .int o_second, .ref a_o_sort, .ref a_o_size, .ref a_o_items])), (a_o_g, .inl (cI, 64, .inl o_g))])) (rq (.int r)) 0 0 nofree := by
  refine ro_of_i (cc := cX7_legendre) (maxL := 5) (by decide) rfl (Nat.le_of_ble_eq_true rfl) ?_
  intro p e s m args below meth c Q ls hx hb hml hown hts hE hP hret hl
  have hK := hE.1
  have hl : lv_has ls 5 [(0, .ref a_o), (1, .int p0), (2, .int p1)] := hl
  unfold f_X7_legendre at hr
  have iX7 : ∀ w ∈ wsX70, w ∈ wsX7_legendre := memr_ (big := wsX7_legendre) wsX70 [2, 3, 4, 5, 6, 7, 8, 9, 10, 11, 12, 13, 14, 15, 16] (by decide +kernel)
  refine lv_iconst (v := (0 : Int32)) hx hb dX7_legendre_0 (by decide) ?_
  refine lv_istore_n (lv' := [(3, .int (0 : Int32)), (0, .ref a_o), (1, .int p0), (2, .int p1)]) hx hb dX7_legendre_1 rfl hl (by decide) rfl (fun ls hl => ?_)
  refine lv_aload_n hx hb dX7_legendre_2 rfl (lv_at hl 1 rfl) ?_
  refine va_get (D := (dC, dI)) (ci := 6) (v := .ref a_o_g) (C := RX7) (T := TX7) (N := 15) hx hb hts iX7 hown hK hP 0 rfl rfl 0 (by decide) (hts (.fieldLink RX7 11 "PascalRowsModel" "g" "[I") (List.mem_of_getElem? (i := 1) rfl)) (fun _ h9 => h9) rfl dX7_legendre_3 ?_
  refine lv_iconst (v := (0 : Int32)) hx hb dX7_legendre_6 (by decide) ?_
  obtain ⟨g_1, eg_1, hg_1, hr⟩ := rd_e hr
  refine va_iald hx hb hK hP 1 0 rfl rfl hg_1 dX7_legendre_7 ?_
  refine tp_ eg_1 ?_
  refine lv_istore (lv' := [(4, .int g_1), (3, .int (0 : Int32)), (0, .ref a_o), (1, .int p0), (2, .int p1)]) hx hb dX7_legendre_8 hl (by decide) rfl (fun ls hl => ?_)
  have hL10 : ∀ (v1_10 : Int32) (v2_10 : Int32) (k_10 : Int32 → Option (Int32)) (hk : ∀ (x3_10 : Int32) (ls : Array Slot), lv_has ls 5 [(3, .int x3_10)] → k_10 x3_10 = some r → W p l e rmX7_legendre s m args below meth c s.heap [] 0 0 Q (F0 m 49 ls [])) (fuel : Nat) (v3_10 : Int32) (v4_10 : Int32) (ls : Array Slot), lv_has ls 5 [(0, .ref a_o), (1, .int v1_10), (2, .int v2_10), (3, .int v3_10), (4, .int v4_10)] → f_X7_legendre_L10 k_10 v1_10 v2_10 o_g fuel v3_10 v4_10 = some r → W p l e rmX7_legendre s m args below meth c s.heap [] 0 0 Q (F0 m 10 ls []) := by
    intro v1_10 v2_10 k_10 hk fuel
    induction fuel with
    | zero =>
      intro v3_10 v4_10 ls hl hr
      rw [f_X7_legendre_L10_z] at hr
      cases hr
    | succ fuel ih =>
      intro v3_10 v4_10 ls hl hr
      rw [f_X7_legendre_L10_s] at hr
      refine lv_iload hx hb dX7_legendre_10 (lv_at hl 4 rfl) ?_
      refine lv_iload_n hx hb dX7_legendre_12 rfl (lv_at hl 1 rfl) ?_
      refine lv_icmp_gt (tgt := 49) hx hb dX7_legendre_13 (by decide) (fun c_2 => ?_) (fun c_2 => ?_)
      · have hr := ite_p hr c_2
        exact hk v3_10 ls (lv_sub hl [3] rfl) hr
      · have hr := ite_n hr c_2
        refine lv_iload_n hx hb dX7_legendre_16 rfl (lv_at hl 3 rfl) ?_
        refine lv_iload_n hx hb dX7_legendre_17 rfl (lv_at hl 1 rfl) ?_
        refine lv_iload hx hb dX7_legendre_18 (lv_at hl 4 rfl) ?_
        obtain ⟨d_3, ed_3, hd_3, hr⟩ := dv_e hr
        refine lv_idiv hx hb dX7_legendre_20 hd_3 ?_
        refine tp_ ed_3 ?_
        refine lv_iload_n hx hb dX7_legendre_21 rfl (lv_at hl 2 rfl) ?_
        refine lv_iload hx hb dX7_legendre_22 (lv_at hl 4 rfl) ?_
        obtain ⟨d_4, ed_4, hd_4, hr⟩ := dv_e hr
        refine lv_idiv hx hb dX7_legendre_24 hd_4 ?_
        refine tp_ ed_4 ?_
        refine lv_isub hx hb dX7_legendre_25 ?_
        refine lv_iload_n hx hb dX7_legendre_26 rfl (lv_at hl 1 rfl) ?_
        refine lv_iload_n hx hb dX7_legendre_27 rfl (lv_at hl 2 rfl) ?_
        refine lv_isub hx hb dX7_legendre_28 ?_
        refine lv_iload hx hb dX7_legendre_29 (lv_at hl 4 rfl) ?_
        obtain ⟨d_5, ed_5, hd_5, hr⟩ := dv_e hr
        refine lv_idiv hx hb dX7_legendre_31 hd_5 ?_
        refine tp_ ed_5 ?_
        refine lv_isub hx hb dX7_legendre_32 ?_
        refine lv_iadd hx hb dX7_legendre_33 ?_
        refine lv_istore_n (lv' := [(3, .int (v3_10 + ((d_3 - d_4) - d_5))), (0, .ref a_o), (1, .int v1_10), (2, .int v2_10), (4, .int v4_10)]) hx hb dX7_legendre_34 rfl hl (by decide) rfl (fun ls hl => ?_)
        refine lv_iload hx hb dX7_legendre_35 (lv_at hl 4 rfl) ?_
        refine lv_aload_n hx hb dX7_legendre_37 rfl (lv_at hl 1 rfl) ?_
        refine va_get (D := (dC, dI)) (ci := 6) (v := .ref a_o_g) (C := RX7) (T := TX7) (N := 15) hx hb hts iX7 hown hK hP 0 rfl rfl 0 (by decide) (hts (.fieldLink RX7 11 "PascalRowsModel" "g" "[I") (List.mem_of_getElem? (i := 1) rfl)) (fun _ h9 => h9) rfl dX7_legendre_38 ?_
        refine lv_iconst (v := (0 : Int32)) hx hb dX7_legendre_41 (by decide) ?_
        obtain ⟨g_6, eg_6, hg_6, hr⟩ := rd_e hr
        refine va_iald hx hb hK hP 1 0 rfl rfl hg_6 dX7_legendre_42 ?_
        refine tp_ eg_6 ?_
        refine lv_imul hx hb dX7_legendre_43 ?_
        refine lv_istore (lv' := [(4, .int (v4_10 * g_6)), (3, .int (v3_10 + ((d_3 - d_4) - d_5))), (0, .ref a_o), (1, .int v1_10), (2, .int v2_10)]) hx hb dX7_legendre_44 hl (by decide) rfl (fun ls hl => ?_)
        refine lv_goto (tgt := 10) hx hb dX7_legendre_46 (by decide) ?_
        exact ih (v3_10 + ((d_3 - d_4) - d_5)) (v4_10 * g_6) ls (lv_sub hl [2, 3, 4, 1, 0] rfl) hr
  refine hL10 p0 p1 _ (fun x3_10 ls hl hr => ?_) 5000 (0 : Int32) g_1 ls (lv_sub hl [2, 3, 4, 1, 0] rfl) hr
  refine lv_iload_n hx hb dX7_legendre_49 rfl (lv_at hl 0 rfl) ?_
  exact hret 50 ls _ dX7_legendre_50 (Option.some.inj hr)
/-! X7_within -/
def rmX7_within : Room := { frames := 0, cells := 0, slots := 0, locals := 0 }
set_option maxHeartbeats 4000000 in
set_option maxRecDepth 100000 in
theorem k_X7_within (l : Launch) (dC : Nat → ClassId) (dI : Nat → Nat → Nat) (cI cJ : ClassId) (a_o : Nat) (a_o_g : Nat) (a_o_kept : Nat) (a_o_was : Nat) (a_o_triangle : Nat) (a_o_text : Nat) (a_o_sort : Nat) (a_o_size : Nat) (a_o_items : Nat) (p0 : Int32) (p1 : Int32) (o_isKept : Int32) (o_takenBy : Int32) (o_fed : Int32) (o_place : Int32) (o_letter : Int32) (o_first : Int32) (o_second : Int32) (o_g : Nat → Int32) (r : Int32) (hr : f_X7_within p0 p1 o_g = some r) : Met l yX7_within wsX7_within rmX7_within (va_Pc [.ref a_o, .int p0, .int p1] (pE (dC, dI) cI cJ [(a_o, .inr (6, [.ref a_o_g, .ref a_o_kept, .ref a_o_was, .int o_isKept, .ref a_o_triangle, .int o_takenBy, .ref a_o_text, .int o_fed, .int o_place, .int o_letter, .int o_first, .int o_second, .ref a_o_sort, .ref a_o_size, .ref a_o_items])), (a_o_g, .inl (cI, 64, .inl o_g))])) (rq (.int r)) 0 0 nofree := by
  refine ro_of_i (cc := cX7_within) (maxL := 5) (by decide) rfl (Nat.le_of_ble_eq_true rfl) ?_
  intro p e s m args below meth c Q ls hx hb hml hown hts hE hP hret hl
  have hK := hE.1
  have hl : lv_has ls 5 [(0, .ref a_o), (1, .int p0), (2, .int p1)] := hl
  unfold f_X7_within at hr
  have iX7 : ∀ w ∈ wsX70, w ∈ wsX7_within := memr_ (big := wsX7_within) wsX70 [2, 3, 4, 5, 6, 7, 8, 9, 10, 11, 12, 13, 14, 15, 16] (by decide +kernel)
  refine lv_iload_n hx hb dX7_within_0 rfl (lv_at hl 1 rfl) ?_
  refine lv_istore_n (lv' := [(3, .int p0), (0, .ref a_o), (1, .int p0), (2, .int p1)]) hx hb dX7_within_1 rfl hl (by decide) rfl (fun ls hl => ?_)
  refine lv_iload_n hx hb dX7_within_2 rfl (lv_at hl 3 rfl) ?_
  refine lv_istore (lv' := [(4, .int p1), (3, .int p0), (0, .ref a_o), (1, .int p0), (2, .int p1)]) hx hb dX7_within_3 hl (by decide) rfl (fun ls hl => ?_)
  have hL5 : ∀  (k_5 : Option (Int32)) (hk : ∀  (ls : Array Slot), lv_has ls 5 [] → k_5 = some r → W p l e rmX7_within s m args below meth c s.heap [] 0 0 Q (F0 m 55 ls [])) (fuel : Nat) (v3_5 : Int32) (v4_5 : Int32) (ls : Array Slot), lv_has ls 5 [(0, .ref a_o), (3, .int v3_5), (4, .int v4_5)] → f_X7_within_L5 k_5 o_g fuel v3_5 v4_5 = some r → W p l e rmX7_within s m args below meth c s.heap [] 0 0 Q (F0 m 5 ls []) := by
    intro k_5 hk fuel
    induction fuel with
    | zero =>
      intro v3_5 v4_5 ls hl hr
      rw [f_X7_within_L5_z] at hr
      cases hr
    | succ fuel ih =>
      intro v3_5 v4_5 ls hl hr
      rw [f_X7_within_L5_s] at hr
      refine lv_iload hx hb dX7_within_5 (lv_at hl 2 rfl) ?_
      refine lv_if_le (tgt := 55) hx hb dX7_within_7 (by decide) (fun c_1 => ?_) (fun c_1 => ?_)
      · have hr := ite_p hr c_1
        exact hk  ls (lv_sub hl [] rfl) hr
      · have hr := ite_n hr c_1
        refine lv_iload hx hb dX7_within_10 (lv_at hl 2 rfl) ?_
        refine lv_aload_n hx hb dX7_within_12 rfl (lv_at hl 0 rfl) ?_
        refine va_get (D := (dC, dI)) (ci := 6) (v := .ref a_o_g) (C := RX7) (T := TX7) (N := 15) hx hb hts iX7 hown hK hP 0 rfl rfl 0 (by decide) (hts (.fieldLink RX7 11 "PascalRowsModel" "g" "[I") (List.mem_of_getElem? (i := 1) rfl)) (fun _ h9 => h9) rfl dX7_within_13 ?_
        refine lv_iconst (v := (0 : Int32)) hx hb dX7_within_16 (by decide) ?_
        obtain ⟨g_2, eg_2, hg_2, hr⟩ := rd_e hr
        refine va_iald hx hb hK hP 1 0 rfl rfl hg_2 dX7_within_17 ?_
        refine tp_ eg_2 ?_
        obtain ⟨d_3, ed_3, hd_3, hr⟩ := md_e hr
        refine lv_irem hx hb dX7_within_18 hd_3 ?_
        refine tp_ ed_3 ?_
        refine lv_iload_n hx hb dX7_within_19 rfl (lv_at hl 1 rfl) ?_
        refine lv_aload_n hx hb dX7_within_20 rfl (lv_at hl 0 rfl) ?_
        refine va_get (D := (dC, dI)) (ci := 6) (v := .ref a_o_g) (C := RX7) (T := TX7) (N := 15) hx hb hts iX7 hown hK hP 0 rfl rfl 0 (by decide) (hts (.fieldLink RX7 11 "PascalRowsModel" "g" "[I") (List.mem_of_getElem? (i := 1) rfl)) (fun _ h9 => h9) rfl dX7_within_21 ?_
        refine lv_iconst (v := (0 : Int32)) hx hb dX7_within_24 (by decide) ?_
        obtain ⟨g_4, eg_4, hg_4, hr⟩ := rd_e hr
        refine va_iald hx hb hK hP 1 0 rfl rfl hg_4 dX7_within_25 ?_
        refine tp_ eg_4 ?_
        obtain ⟨d_5, ed_5, hd_5, hr⟩ := md_e hr
        refine lv_irem hx hb dX7_within_26 hd_5 ?_
        refine tp_ ed_5 ?_
        refine lv_icmp_le (tgt := 32) hx hb dX7_within_27 (by decide) (fun c_6 => ?_) (fun c_6 => ?_)
        · have hr := ite_p hr c_6
          refine lv_iload_n hx hb dX7_within_32 rfl (lv_at hl 1 rfl) ?_
          refine lv_aload_n hx hb dX7_within_33 rfl (lv_at hl 0 rfl) ?_
          refine va_get (D := (dC, dI)) (ci := 6) (v := .ref a_o_g) (C := RX7) (T := TX7) (N := 15) hx hb hts iX7 hown hK hP 0 rfl rfl 0 (by decide) (hts (.fieldLink RX7 11 "PascalRowsModel" "g" "[I") (List.mem_of_getElem? (i := 1) rfl)) (fun _ h9 => h9) rfl dX7_within_34 ?_
          refine lv_iconst (v := (0 : Int32)) hx hb dX7_within_37 (by decide) ?_
          obtain ⟨g_7, eg_7, hg_7, hr⟩ := rd_e hr
          refine va_iald hx hb hK hP 1 0 rfl rfl hg_7 dX7_within_38 ?_
          refine tp_ eg_7 ?_
          obtain ⟨d_8, ed_8, hd_8, hr⟩ := dv_e hr
          refine lv_idiv hx hb dX7_within_39 hd_8 ?_
          refine tp_ ed_8 ?_
          refine lv_istore_n (lv' := [(3, .int d_8), (0, .ref a_o), (4, .int v4_5)]) hx hb dX7_within_40 rfl hl (by decide) rfl (fun ls hl => ?_)
          refine lv_iload hx hb dX7_within_41 (lv_at hl 2 rfl) ?_
          refine lv_aload_n hx hb dX7_within_43 rfl (lv_at hl 1 rfl) ?_
          refine va_get (D := (dC, dI)) (ci := 6) (v := .ref a_o_g) (C := RX7) (T := TX7) (N := 15) hx hb hts iX7 hown hK hP 0 rfl rfl 0 (by decide) (hts (.fieldLink RX7 11 "PascalRowsModel" "g" "[I") (List.mem_of_getElem? (i := 1) rfl)) (fun _ h9 => h9) rfl dX7_within_44 ?_
          refine lv_iconst (v := (0 : Int32)) hx hb dX7_within_47 (by decide) ?_
          obtain ⟨g_9, eg_9, hg_9, hr⟩ := rd_e hr
          refine va_iald hx hb hK hP 1 0 rfl rfl hg_9 dX7_within_48 ?_
          refine tp_ eg_9 ?_
          obtain ⟨d_10, ed_10, hd_10, hr⟩ := dv_e hr
          refine lv_idiv hx hb dX7_within_49 hd_10 ?_
          refine tp_ ed_10 ?_
          refine lv_istore (lv' := [(4, .int d_10), (3, .int d_8), (0, .ref a_o)]) hx hb dX7_within_50 hl (by decide) rfl (fun ls hl => ?_)
          refine lv_goto (tgt := 5) hx hb dX7_within_52 (by decide) ?_
          exact ih d_8 d_10 ls (lv_sub hl [2, 1, 0] rfl) hr
        · have hr := ite_n hr c_6
          refine lv_iconst (v := (0 : Int32)) hx hb dX7_within_30 (by decide) ?_
          exact hret 31 ls _ dX7_within_31 (Option.some.inj hr)
  refine hL5  _ (fun  ls hl hr => ?_) 5000 p0 p1 ls (lv_sub hl [2, 1, 0] rfl) hr
  refine lv_iconst (v := (1 : Int32)) hx hb dX7_within_55 (by decide) ?_
  exact hret 56 ls _ dX7_within_56 (Option.some.inj hr)
/-! X7_tells -/
def rmX7_tells : Room := { frames := 3, cells := 0, slots := 0, locals := 65 }
set_option maxHeartbeats 4000000 in
set_option maxRecDepth 100000 in
theorem k_X7_tells (l : Launch) (dC : Nat → ClassId) (dI : Nat → Nat → Nat) (cI cJ : ClassId) (a_o : Nat) (a_o_g : Nat) (a_o_kept : Nat) (a_o_was : Nat) (a_o_triangle : Nat) (a_o_text : Nat) (a_o_sort : Nat) (a_o_size : Nat) (a_o_items : Nat) (p0 : Int32) (p1 : Int32) (p2 : Int32) (o_isKept : Int32) (o_takenBy : Int32) (o_fed : Int32) (o_place : Int32) (o_letter : Int32) (o_first : Int32) (o_second : Int32) (o_g : Nat → Int32) (o_triangle : Nat → Int32) (sz : Nat) (r : Int32 × (Nat → Int32) × Int32) (hr : f_X7_tells p0 p1 p2 o_g o_triangle o_takenBy = some r) : Met l yX7_tells wsX7_tells rmX7_tells (va_Pc [.ref a_o, .int p0, .int p1, .int p2] (pM (dC, dI) cI cJ [(a_o, .inr (6, [.ref a_o_g, .ref a_o_kept, .ref a_o_was, .int o_isKept, .ref a_o_triangle, .int o_takenBy, .ref a_o_text, .int o_fed, .int o_place, .int o_letter, .int o_first, .int o_second, .ref a_o_sort, .ref a_o_size, .ref a_o_items])), (a_o_g, .inl (cI, 64, .inl o_g)), (a_o_triangle, .inl (cI, 16384, .inl o_triangle))] sz)) (qM (some (.int r.1)) (dC, dI) [(a_o, .inr (6, [.ref a_o_g, .ref a_o_kept, .ref a_o_was, .int o_isKept, .ref a_o_triangle, .int r.2.2, .ref a_o_text, .int o_fed, .int o_place, .int o_letter, .int o_first, .int o_second, .ref a_o_sort, .ref a_o_size, .ref a_o_items])), (a_o_g, .inl (cI, 64, .inl o_g)), (a_o_triangle, .inl (cI, 16384, .inl r.2.1))] (va_A [(a_o, .inr (6, [.ref a_o_g, .ref a_o_kept, .ref a_o_was, .int o_isKept, .ref a_o_triangle, .int o_takenBy, .ref a_o_text, .int o_fed, .int o_place, .int o_letter, .int o_first, .int o_second, .ref a_o_sort, .ref a_o_size, .ref a_o_items])), (a_o_g, .inl (cI, 64, .inl o_g)), (a_o_triangle, .inl (cI, 16384, .inl o_triangle))] sz)) 0 0 (va_A [(a_o, .inr (6, [.ref a_o_g, .ref a_o_kept, .ref a_o_was, .int o_isKept, .ref a_o_triangle, .int o_takenBy, .ref a_o_text, .int o_fed, .int o_place, .int o_letter, .int o_first, .int o_second, .ref a_o_sort, .ref a_o_size, .ref a_o_items])), (a_o_g, .inl (cI, 64, .inl o_g)), (a_o_triangle, .inl (cI, 16384, .inl o_triangle))] sz) := by
  refine mu_of (cc := cX7_tells) (maxL := 4) (by decide) rfl (Nat.le_of_ble_eq_true rfl) ?_
  intro p e s m args below meth c Q ls A hx hb hml hown hts hE hP hD hA hrt hlocks hret hl
  have hK := hE.1
  have hS : va_S A s.heap s.heap [] := va_S.rf
  have hl : lv_has ls 4 [(0, .ref a_o), (1, .int p0), (2, .int p1), (3, .int p2)] := hl
  unfold f_X7_tells at hr
  obtain ⟨H, hHe⟩ : ∃ H, H = s.heap := ⟨_, rfl⟩
  obtain ⟨locs, hLe⟩ : ∃ locs : List Loc, locs = [] := ⟨_, rfl⟩
  suffices hgo : va_P (dC, dI) vwCl [(a_o, .inr (6, [.ref a_o_g, .ref a_o_kept, .ref a_o_was, .int o_isKept, .ref a_o_triangle, .int o_takenBy, .ref a_o_text, .int o_fed, .int o_place, .int o_letter, .int o_first, .int o_second, .ref a_o_sort, .ref a_o_size, .ref a_o_items])), (a_o_g, .inl (cI, 64, .inl o_g)), (a_o_triangle, .inl (cI, 16384, .inl o_triangle))] H → va_S A s.heap H locs → W p l e rmX7_tells s m args below meth c H locs 0 0 Q (F0 m 0 ls []) by
    subst hHe; subst hLe; exact hgo hP hS
  clear hP hS hHe hLe
  intro hP hS
  have iX7 : ∀ w ∈ wsX70, w ∈ wsX7_tells := memr_ (big := wsX7_tells) wsX70 [43, 44, 45, 46, 47, 48, 49, 50, 51, 52, 53, 54, 55, 56, 57] (by decide +kernel)
  refine lv_iload_n hx hb dX7_tells_0 rfl (lv_at hl 1 rfl) ?_
  by_cases c_1 : p0 = (0 : Int32)
  · have hr := ite_p hr c_1
    refine W.eq (g2 := F0 m 1 ls (.int (0 : Int32) :: [])) (congrArg (fun z => F0 m 1 ls (.int z :: [])) c_1) ?_
    refine lv_tableIn (tgt := 32) hx hb dX7_tells_1 (by decide) (by decide) (by first | rfl | decide) (by decide) ?_
    refine lv_aload_n hx hb dX7_tells_32 rfl (lv_at hl 0 rfl) ?_
    refine lv_iload_n hx hb dX7_tells_33 rfl (lv_at hl 2 rfl) ?_
    refine lv_iload_n hx hb dX7_tells_34 rfl (lv_at hl 3 rfl) ?_
    obtain ⟨u_2, hu_2, hr⟩ := bd_e hr
    refine mu_V ⟨hx, hb, hml, hown, hts⟩ (k_X7_remainder l dC dI cI cJ a_o a_o_g a_o_kept a_o_was a_o_triangle a_o_text a_o_sort a_o_size a_o_items p1 p2 o_isKept o_takenBy o_fed o_place o_letter o_first o_second o_g o_triangle H.size u_2 hu_2) (cwV 2 hts gX7_tells_X7_remainder rfl rfl rfl (by decide +kernel) ⟨Nat.le_of_ble_eq_true rfl, Nat.le_of_ble_eq_true rfl⟩) hE 0 rfl rfl rfl rfl hl.1 rfl (Nat.le_of_ble_eq_true rfl) dX7_tells_35 ⟨Nat.zero_le _, Nat.zero_le _⟩ hP (hD.fst rfl) hS hA [0, 1, 2] [] [0, 1, 2] rfl rfl (by decide) (by decide) rfl (by decide) (W1 := [(a_o, .inr (6, [.ref a_o_g, .ref a_o_kept, .ref a_o_was, .int o_isKept, .ref a_o_triangle, .int u_2.2.2, .ref a_o_text, .int o_fed, .int o_place, .int o_letter, .int o_first, .int o_second, .ref a_o_sort, .ref a_o_size, .ref a_o_items])), (a_o_g, .inl (cI, 64, .inl o_g)), (a_o_triangle, .inl (cI, 16384, .inl u_2.2.1))]) rfl (fun H locs hP hS => W.eq (g2 := F0 m 38 ls [.int u_2.1]) rfl ?_)
    obtain rfl := Option.some.inj hr
    exact hret H locs _ hP hS (fun Qc free hq hf => W.iret hx hb hrt hq hf dX7_tells_38 hlocks)
  have hr := ite_n hr c_1
  by_cases c_3 : p0 = (1 : Int32)
  · have hr := ite_p hr c_3
    refine W.eq (g2 := F0 m 1 ls (.int (1 : Int32) :: [])) (congrArg (fun z => F0 m 1 ls (.int z :: [])) c_3) ?_
    refine lv_tableIn (tgt := 39) hx hb dX7_tells_1 (by decide) (by decide) (by first | rfl | decide) (by decide) ?_
    refine lv_aload_n hx hb dX7_tells_39 rfl (lv_at hl 0 rfl) ?_
    refine lv_iload_n hx hb dX7_tells_40 rfl (lv_at hl 2 rfl) ?_
    refine lv_iload_n hx hb dX7_tells_41 rfl (lv_at hl 3 rfl) ?_
    obtain ⟨u_4, hu_4, hr⟩ := bd_e hr
    refine ro_V ⟨hx, hb, hml, hown, hts⟩ (k_X7_lucas l dC dI cI cJ a_o a_o_g a_o_kept a_o_was a_o_triangle a_o_text a_o_sort a_o_size a_o_items p1 p2 o_isKept o_takenBy o_fed o_place o_letter o_first o_second o_g u_4 hu_4) (cwV 2 hts gX7_tells_X7_lucas rfl rfl rfl (by decide +kernel) ⟨Nat.le_of_ble_eq_true rfl, Nat.le_of_ble_eq_true rfl⟩) hE hP 0 rfl rfl rfl (hP.sub [0, 1] rfl) rfl hl.1 rfl (Nat.le_of_ble_eq_true rfl) dX7_tells_42 ⟨Nat.zero_le _, Nat.zero_le _⟩ ?_
    obtain rfl := Option.some.inj hr
    exact hret H locs _ hP hS (fun Qc free hq hf => W.iret hx hb hrt hq hf dX7_tells_45 hlocks)
  have hr := ite_n hr c_3
  by_cases c_5 : p0 = (2 : Int32)
  · have hr := ite_p hr c_5
    refine W.eq (g2 := F0 m 1 ls (.int (2 : Int32) :: [])) (congrArg (fun z => F0 m 1 ls (.int z :: [])) c_5) ?_
    refine lv_tableIn (tgt := 46) hx hb dX7_tells_1 (by decide) (by decide) (by first | rfl | decide) (by decide) ?_
    refine lv_aload_n hx hb dX7_tells_46 rfl (lv_at hl 0 rfl) ?_
    refine lv_iload_n hx hb dX7_tells_47 rfl (lv_at hl 2 rfl) ?_
    refine lv_iload_n hx hb dX7_tells_48 rfl (lv_at hl 3 rfl) ?_
    obtain ⟨u_6, hu_6, hr⟩ := bd_e hr
    refine ro_V ⟨hx, hb, hml, hown, hts⟩ (k_X7_carries l dC dI cI cJ a_o a_o_g a_o_kept a_o_was a_o_triangle a_o_text a_o_sort a_o_size a_o_items p1 p2 o_isKept o_takenBy o_fed o_place o_letter o_first o_second o_g u_6 hu_6) (cwV 2 hts gX7_tells_X7_carries rfl rfl rfl (by decide +kernel) ⟨Nat.le_of_ble_eq_true rfl, Nat.le_of_ble_eq_true rfl⟩) hE hP 0 rfl rfl rfl (hP.sub [0, 1] rfl) rfl hl.1 rfl (Nat.le_of_ble_eq_true rfl) dX7_tells_49 ⟨Nat.zero_le _, Nat.zero_le _⟩ ?_
    obtain rfl := Option.some.inj hr
    exact hret H locs _ hP hS (fun Qc free hq hf => W.iret hx hb hrt hq hf dX7_tells_52 hlocks)
  have hr := ite_n hr c_5
  by_cases c_7 : p0 = (3 : Int32)
  · have hr := ite_p hr c_7
    refine W.eq (g2 := F0 m 1 ls (.int (3 : Int32) :: [])) (congrArg (fun z => F0 m 1 ls (.int z :: [])) c_7) ?_
    refine lv_tableIn (tgt := 53) hx hb dX7_tells_1 (by decide) (by decide) (by first | rfl | decide) (by decide) ?_
    refine lv_aload_n hx hb dX7_tells_53 rfl (lv_at hl 0 rfl) ?_
    refine lv_iload_n hx hb dX7_tells_54 rfl (lv_at hl 2 rfl) ?_
    refine lv_iload_n hx hb dX7_tells_55 rfl (lv_at hl 3 rfl) ?_
    obtain ⟨u_8, hu_8, hr⟩ := bd_e hr
    refine ro_V ⟨hx, hb, hml, hown, hts⟩ (k_X7_legendre l dC dI cI cJ a_o a_o_g a_o_kept a_o_was a_o_triangle a_o_text a_o_sort a_o_size a_o_items p1 p2 o_isKept o_takenBy o_fed o_place o_letter o_first o_second o_g u_8 hu_8) (cwV 2 hts gX7_tells_X7_legendre rfl rfl rfl (by decide +kernel) ⟨Nat.le_of_ble_eq_true rfl, Nat.le_of_ble_eq_true rfl⟩) hE hP 0 rfl rfl rfl (hP.sub [0, 1] rfl) rfl hl.1 rfl (Nat.le_of_ble_eq_true rfl) dX7_tells_56 ⟨Nat.zero_le _, Nat.zero_le _⟩ ?_
    obtain rfl := Option.some.inj hr
    exact hret H locs _ hP hS (fun Qc free hq hf => W.iret hx hb hrt hq hf dX7_tells_59 hlocks)
  have hr := ite_n hr c_7
  refine lv_tableOut (tgt := 60) hx hb dX7_tells_1 (tbl_out (fun k h1 h2 => ?_)) (by decide) ?_
  · rcases (show k = 0 ∨ k = 1 ∨ k = 2 ∨ k = 3 by omega) with rfl | rfl | rfl | rfl
    · exact i32_ne c_1 rfl
    · exact i32_ne c_3 rfl
    · exact i32_ne c_5 rfl
    · exact i32_ne c_7 rfl
  refine lv_aload_n hx hb dX7_tells_60 rfl (lv_at hl 0 rfl) ?_
  refine lv_iload_n hx hb dX7_tells_61 rfl (lv_at hl 2 rfl) ?_
  refine lv_iload_n hx hb dX7_tells_62 rfl (lv_at hl 3 rfl) ?_
  obtain ⟨u_9, hu_9, hr⟩ := bd_e hr
  refine ro_V ⟨hx, hb, hml, hown, hts⟩ (k_X7_within l dC dI cI cJ a_o a_o_g a_o_kept a_o_was a_o_triangle a_o_text a_o_sort a_o_size a_o_items p1 p2 o_isKept o_takenBy o_fed o_place o_letter o_first o_second o_g u_9 hu_9) (cwV 2 hts gX7_tells_X7_within rfl rfl rfl (by decide +kernel) ⟨Nat.le_of_ble_eq_true rfl, Nat.le_of_ble_eq_true rfl⟩) hE hP 0 rfl rfl rfl (hP.sub [0, 1] rfl) rfl hl.1 rfl (Nat.le_of_ble_eq_true rfl) dX7_tells_63 ⟨Nat.zero_le _, Nat.zero_le _⟩ ?_
  obtain rfl := Option.some.inj hr
  exact hret H locs _ hP hS (fun Qc free hq hf => W.iret hx hb hrt hq hf dX7_tells_66 hlocks)
/-! X7_isRow -/
theorem fz_X7_isRow (p0 : Int32) : f_X7_isRow p0 = 0 ∨ f_X7_isRow p0 = 1 := fz_X7_isIn _ _ _
def rmX7_isRow : Room := { frames := 1, cells := 0, slots := 0, locals := 25 }
set_option maxHeartbeats 4000000 in
set_option maxRecDepth 100000 in
theorem k_X7_isRow (l : Launch) (dC : Nat → ClassId) (dI : Nat → Nat → Nat) (cI cJ : ClassId) (p0 : Int32) : Met l yX7_isRow wsX7_isRow rmX7_isRow (va_Pc [.int p0] (pE (dC, dI) cI cJ [])) (rq (.int (f_X7_isRow p0))) 0 0 nofree := by
  refine ro_of_z (cc := cX7_isRow) (maxL := 1) (by decide) rfl (Nat.le_of_ble_eq_true rfl) ?_
  intro p e s m args below meth c Q ls hx hb hml hown hts hE hP hret hl
  have hK := hE.1
  have hl : lv_has ls 1 [(0, .int p0)] := hl
  refine lv_iload_n hx hb dX7_isRow_0 rfl (lv_at hl 0 rfl) ?_
  refine lv_i2l (v := (Int32.toInt64 p0)) hx hb dX7_isRow_1 rfl ?_
  refine lv_lconst (v := (0 : Int64)) hx hb dX7_isRow_2 (by decide) ?_
  refine lv_ldc2 (v := (127 : Int64)) hx hb hown (hts (.constantLong RX7 53 (127)) (List.mem_of_getElem? (i := 1) rfl)) dX7_isRow_3 ?_
  refine ro_S ⟨hx, hb, hml, hown, hts⟩ (k_X7_isIn l dC dI cI cJ (Int32.toInt64 p0) (0 : Int64) (127 : Int64)) (va_cwS 3 hts gX7_isRow_X7_isIn rfl rfl rfl (by decide +kernel) ⟨Nat.le_of_ble_eq_true rfl, Nat.le_of_ble_eq_true rfl⟩) hE (hP.sub [] rfl) rfl hl.1 rfl (Nat.le_of_ble_eq_true rfl) dX7_isRow_6 ⟨Nat.zero_le _, Nat.zero_le _⟩ ?_
  exact hret 9 ls _ dX7_isRow_9 (fz_X7_isIn _ _ _) rfl
/-! X7_isPlace -/
theorem fz_X7_isPlace (p0 : Int32) (p1 : Int32) : f_X7_isPlace p0 p1 = 0 ∨ f_X7_isPlace p0 p1 = 1 := nb_lit _
def rmX7_isPlace : Room := { frames := 2, cells := 0, slots := 0, locals := 45 }
set_option maxHeartbeats 4000000 in
set_option maxRecDepth 100000 in
theorem k_X7_isPlace (l : Launch) (dC : Nat → ClassId) (dI : Nat → Nat → Nat) (cI cJ : ClassId) (p0 : Int32) (p1 : Int32) : Met l yX7_isPlace wsX7_isPlace rmX7_isPlace (va_Pc [.int p0, .int p1] (pE (dC, dI) cI cJ [])) (rq (.int (f_X7_isPlace p0 p1))) 0 0 nofree := by
  refine ro_of_z (cc := cX7_isPlace) (maxL := 2) (by decide) rfl (Nat.le_of_ble_eq_true rfl) ?_
  intro p e s m args below meth c Q ls hx hb hml hown hts hE hP hret hl
  have hK := hE.1
  have hl : lv_has ls 2 [(0, .int p0), (1, .int p1)] := hl
  refine lv_iload_n hx hb dX7_isPlace_0 rfl (lv_at hl 0 rfl) ?_
  refine ro_S ⟨hx, hb, hml, hown, hts⟩ (k_X7_isRow l dC dI cI cJ p0) (va_cwS 1 hts gX7_isPlace_X7_isRow rfl rfl rfl (by decide +kernel) ⟨Nat.le_of_ble_eq_true rfl, Nat.le_of_ble_eq_true rfl⟩) hE (hP.sub [] rfl) rfl hl.1 rfl (Nat.le_of_ble_eq_true rfl) dX7_isPlace_1 ⟨Nat.zero_le _, Nat.zero_le _⟩ ?_
  have hJ_1 : ∀ (y_2 : Int32) (ey_2 : y_2 = (if (¬ (((f_X7_isRow p0) = 0) ∨ ((f_X7_isIn (Int32.toInt64 p1) (0 : Int64) (Int32.toInt64 p0)) = 0))) then (1 : Int32) else (0 : Int32))) (ls : Array Slot), lv_has ls 2 [] → W p l e rmX7_isPlace s m args below meth c s.heap [] 0 0 Q (F0 m 23 ls [.int y_2]) := by
    intro y_2 ey_2 ls hl
    subst ey_2
    exact hret 23 ls _ dX7_isPlace_23 (nb_lit _) rfl
  refine lv_if_eq (tgt := 22) hx hb dX7_isPlace_4 (by decide) (fun c_3 => ?_) (fun c_3 => ?_)
  · refine lv_iconst (v := (0 : Int32)) hx hb dX7_isPlace_22 (by decide) ?_
    exact hJ_1 _ (if_neg (fun h => h (Or.inl c_3))).symm ls (lv_sub hl [] rfl)
  · refine lv_iload_n hx hb dX7_isPlace_7 rfl (lv_at hl 1 rfl) ?_
    refine lv_i2l (v := (Int32.toInt64 p1)) hx hb dX7_isPlace_8 rfl ?_
    refine lv_lconst (v := (0 : Int64)) hx hb dX7_isPlace_9 (by decide) ?_
    refine lv_iload_n hx hb dX7_isPlace_10 rfl (lv_at hl 0 rfl) ?_
    refine lv_i2l (v := (Int32.toInt64 p0)) hx hb dX7_isPlace_11 rfl ?_
    refine ro_S ⟨hx, hb, hml, hown, hts⟩ (k_X7_isIn l dC dI cI cJ (Int32.toInt64 p1) (0 : Int64) (Int32.toInt64 p0)) (va_cwS 3 hts gX7_isPlace_X7_isIn rfl rfl rfl (by decide +kernel) ⟨Nat.le_of_ble_eq_true rfl, Nat.le_of_ble_eq_true rfl⟩) hE (hP.sub [] rfl) rfl hl.1 rfl (Nat.le_of_ble_eq_true rfl) dX7_isPlace_12 ⟨Nat.zero_le _, Nat.zero_le _⟩ ?_
    refine lv_if_eq (tgt := 22) hx hb dX7_isPlace_15 (by decide) (fun c_4 => ?_) (fun c_4 => ?_)
    · refine lv_iconst (v := (0 : Int32)) hx hb dX7_isPlace_22 (by decide) ?_
      exact hJ_1 _ (if_neg (fun h => h (Or.inr c_4))).symm ls (lv_sub hl [] rfl)
    · refine lv_iconst (v := (1 : Int32)) hx hb dX7_isPlace_18 (by decide) ?_
      refine lv_goto (tgt := 23) hx hb dX7_isPlace_19 (by decide) ?_
      exact hJ_1 _ (if_pos (fun h => h.elim c_3 c_4)).symm ls (lv_sub hl [] rfl)
/-! X7_isKind -/
theorem fz_X7_isKind (p0 : Int32) : f_X7_isKind p0 = 0 ∨ f_X7_isKind p0 = 1 := fz_X7_isIn _ _ _
def rmX7_isKind : Room := { frames := 1, cells := 0, slots := 0, locals := 25 }
set_option maxHeartbeats 4000000 in
set_option maxRecDepth 100000 in
theorem k_X7_isKind (l : Launch) (dC : Nat → ClassId) (dI : Nat → Nat → Nat) (cI cJ : ClassId) (p0 : Int32) : Met l yX7_isKind wsX7_isKind rmX7_isKind (va_Pc [.int p0] (pE (dC, dI) cI cJ [])) (rq (.int (f_X7_isKind p0))) 0 0 nofree := by
  refine ro_of_z (cc := cX7_isKind) (maxL := 1) (by decide) rfl (Nat.le_of_ble_eq_true rfl) ?_
  intro p e s m args below meth c Q ls hx hb hml hown hts hE hP hret hl
  have hK := hE.1
  have hl : lv_has ls 1 [(0, .int p0)] := hl
  refine lv_iload_n hx hb dX7_isKind_0 rfl (lv_at hl 0 rfl) ?_
  refine lv_i2l (v := (Int32.toInt64 p0)) hx hb dX7_isKind_1 rfl ?_
  refine lv_lconst (v := (0 : Int64)) hx hb dX7_isKind_2 (by decide) ?_
  refine lv_ldc2 (v := (4 : Int64)) hx hb hown (hts (.constantLong RX7 81 (4)) (List.mem_of_getElem? (i := 1) rfl)) dX7_isKind_3 ?_
  refine ro_S ⟨hx, hb, hml, hown, hts⟩ (k_X7_isIn l dC dI cI cJ (Int32.toInt64 p0) (0 : Int64) (4 : Int64)) (va_cwS 3 hts gX7_isKind_X7_isIn rfl rfl rfl (by decide +kernel) ⟨Nat.le_of_ble_eq_true rfl, Nat.le_of_ble_eq_true rfl⟩) hE (hP.sub [] rfl) rfl hl.1 rfl (Nat.le_of_ble_eq_true rfl) dX7_isKind_6 ⟨Nat.zero_le _, Nat.zero_le _⟩ ?_
  exact hret 9 ls _ dX7_isKind_9 (fz_X7_isIn _ _ _) rfl
/-! X7_isMarked -/
def rmX7_isMarked : Room := { frames := 4, cells := 0, slots := 0, locals := 88 }
set_option maxHeartbeats 4000000 in
set_option maxRecDepth 100000 in
theorem k_X7_isMarked (l : Launch) (dC : Nat → ClassId) (dI : Nat → Nat → Nat) (cI cJ : ClassId) (a_o : Nat) (a_o_g : Nat) (a_o_kept : Nat) (a_o_was : Nat) (a_o_triangle : Nat) (a_o_text : Nat) (a_o_sort : Nat) (a_o_size : Nat) (a_o_items : Nat) (p0 : Int32) (p1 : Int32) (o_isKept : Int32) (o_takenBy : Int32) (o_fed : Int32) (o_place : Int32) (o_letter : Int32) (o_first : Int32) (o_second : Int32) (o_g : Nat → Int32) (o_triangle : Nat → Int32) (sz : Nat) (r : Int32 × (Nat → Int32) × Int32) (hr : f_X7_isMarked p0 p1 o_g o_triangle o_takenBy = some r) : Met l yX7_isMarked wsX7_isMarked rmX7_isMarked (va_Pc [.ref a_o, .int p0, .int p1] (pM (dC, dI) cI cJ [(a_o, .inr (6, [.ref a_o_g, .ref a_o_kept, .ref a_o_was, .int o_isKept, .ref a_o_triangle, .int o_takenBy, .ref a_o_text, .int o_fed, .int o_place, .int o_letter, .int o_first, .int o_second, .ref a_o_sort, .ref a_o_size, .ref a_o_items])), (a_o_g, .inl (cI, 64, .inl o_g)), (a_o_triangle, .inl (cI, 16384, .inl o_triangle))] sz)) (qM (some (.int r.1)) (dC, dI) [(a_o, .inr (6, [.ref a_o_g, .ref a_o_kept, .ref a_o_was, .int o_isKept, .ref a_o_triangle, .int r.2.2, .ref a_o_text, .int o_fed, .int o_place, .int o_letter, .int o_first, .int o_second, .ref a_o_sort, .ref a_o_size, .ref a_o_items])), (a_o_g, .inl (cI, 64, .inl o_g)), (a_o_triangle, .inl (cI, 16384, .inl r.2.1))] (va_A [(a_o, .inr (6, [.ref a_o_g, .ref a_o_kept, .ref a_o_was, .int o_isKept, .ref a_o_triangle, .int o_takenBy, .ref a_o_text, .int o_fed, .int o_place, .int o_letter, .int o_first, .int o_second, .ref a_o_sort, .ref a_o_size, .ref a_o_items])), (a_o_g, .inl (cI, 64, .inl o_g)), (a_o_triangle, .inl (cI, 16384, .inl o_triangle))] sz)) 0 0 (va_A [(a_o, .inr (6, [.ref a_o_g, .ref a_o_kept, .ref a_o_was, .int o_isKept, .ref a_o_triangle, .int o_takenBy, .ref a_o_text, .int o_fed, .int o_place, .int o_letter, .int o_first, .int o_second, .ref a_o_sort, .ref a_o_size, .ref a_o_items])), (a_o_g, .inl (cI, 64, .inl o_g)), (a_o_triangle, .inl (cI, 16384, .inl o_triangle))] sz) := by
  refine mu_of (cc := cX7_isMarked) (maxL := 5) (by decide) rfl (Nat.le_of_ble_eq_true rfl) ?_
  intro p e s m args below meth c Q ls A hx hb hml hown hts hE hP hD hA hrt hlocks hret hl
  have hK := hE.1
  have hS : va_S A s.heap s.heap [] := va_S.rf
  have hl : lv_has ls 5 [(0, .ref a_o), (1, .int p0), (2, .int p1)] := hl
  unfold f_X7_isMarked at hr
  obtain ⟨H, hHe⟩ : ∃ H, H = s.heap := ⟨_, rfl⟩
  obtain ⟨locs, hLe⟩ : ∃ locs : List Loc, locs = [] := ⟨_, rfl⟩
  suffices hgo : va_P (dC, dI) vwCl [(a_o, .inr (6, [.ref a_o_g, .ref a_o_kept, .ref a_o_was, .int o_isKept, .ref a_o_triangle, .int o_takenBy, .ref a_o_text, .int o_fed, .int o_place, .int o_letter, .int o_first, .int o_second, .ref a_o_sort, .ref a_o_size, .ref a_o_items])), (a_o_g, .inl (cI, 64, .inl o_g)), (a_o_triangle, .inl (cI, 16384, .inl o_triangle))] H → va_S A s.heap H locs → W p l e rmX7_isMarked s m args below meth c H locs 0 0 Q (F0 m 0 ls []) by
    subst hHe; subst hLe; exact hgo hP hS
  clear hP hS hHe hLe
  intro hP hS
  have iX7 : ∀ w ∈ wsX70, w ∈ wsX7_isMarked := memr_ (big := wsX7_isMarked) wsX70 [53, 54, 55, 56, 57, 58, 59, 60, 61, 62, 63, 64, 65, 66, 67] (by decide +kernel)
  refine lv_iconst (v := (0 : Int32)) hx hb dX7_isMarked_0 (by decide) ?_
  refine lv_istore_n (lv' := [(3, .int (0 : Int32)), (0, .ref a_o), (1, .int p0), (2, .int p1)]) hx hb dX7_isMarked_1 rfl hl (by decide) rfl (fun ls hl => ?_)
  refine lv_iconst (v := (0 : Int32)) hx hb dX7_isMarked_2 (by decide) ?_
  refine lv_istore (lv' := [(4, .int (0 : Int32)), (3, .int (0 : Int32)), (0, .ref a_o), (1, .int p0), (2, .int p1)]) hx hb dX7_isMarked_3 hl (by decide) rfl (fun ls hl => ?_)
  have hL5 : ∀ (v1_5 : Int32) (v2_5 : Int32) (k_5 : Int32 → (Nat → Int32) → (Int32) → Option (Int32 × (Nat → Int32) × Int32)) (hk : ∀ (x3_5 : Int32) (xc_o_triangle_5 : Nat → Int32) (xc_o_takenBy_5 : Int32) (ls : Array Slot), lv_has ls 5 [(3, .int x3_5)] → ∀ (H : Heap) (locs : List Loc), va_P (dC, dI) vwCl [(a_o, .inr (6, [.ref a_o_g, .ref a_o_kept, .ref a_o_was, .int o_isKept, .ref a_o_triangle, .int xc_o_takenBy_5, .ref a_o_text, .int o_fed, .int o_place, .int o_letter, .int o_first, .int o_second, .ref a_o_sort, .ref a_o_size, .ref a_o_items])), (a_o_g, .inl (cI, 64, .inl o_g)), (a_o_triangle, .inl (cI, 16384, .inl xc_o_triangle_5))] H → va_S A s.heap H locs →  k_5 x3_5 xc_o_triangle_5 xc_o_takenBy_5 = some r → W p l e rmX7_isMarked s m args below meth c H locs 0 0 Q (F0 m 70 ls [])) (fuel : Nat) (v3_5 : Int32) (v4_5 : Int32) (o_triangle_5 : Nat → Int32) (o_takenBy_5 : Int32) (ls : Array Slot), lv_has ls 5 [(0, .ref a_o), (1, .int v1_5), (2, .int v2_5), (3, .int v3_5), (4, .int v4_5)] → ∀ (H : Heap) (locs : List Loc), va_P (dC, dI) vwCl [(a_o, .inr (6, [.ref a_o_g, .ref a_o_kept, .ref a_o_was, .int o_isKept, .ref a_o_triangle, .int o_takenBy_5, .ref a_o_text, .int o_fed, .int o_place, .int o_letter, .int o_first, .int o_second, .ref a_o_sort, .ref a_o_size, .ref a_o_items])), (a_o_g, .inl (cI, 64, .inl o_g)), (a_o_triangle, .inl (cI, 16384, .inl o_triangle_5))] H → va_S A s.heap H locs → f_X7_isMarked_L5 k_5 v1_5 v2_5 o_g fuel v3_5 v4_5 o_triangle_5 o_takenBy_5 = some r → W p l e rmX7_isMarked s m args below meth c H locs 0 0 Q (F0 m 5 ls []) := by
    intro v1_5 v2_5 k_5 hk fuel
    induction fuel with
    | zero =>
      intro v3_5 v4_5 o_triangle_5 o_takenBy_5 ls hl H locs hP hS hr
      rw [f_X7_isMarked_L5_z] at hr
      cases hr
    | succ fuel ih =>
      intro v3_5 v4_5 o_triangle_5 o_takenBy_5 ls hl H locs hP hS hr
      rw [f_X7_isMarked_L5_s] at hr
      refine lv_iload hx hb dX7_isMarked_5 (lv_at hl 4 rfl) ?_
      refine lv_aload_n hx hb dX7_isMarked_7 rfl (lv_at hl 0 rfl) ?_
      refine va_get (D := (dC, dI)) (ci := 6) (v := .ref a_o_g) (C := RX7) (T := TX7) (N := 15) hx hb hts iX7 hown hK hP 0 rfl rfl 0 (by decide) (hts (.fieldLink RX7 11 "PascalRowsModel" "g" "[I") (List.mem_of_getElem? (i := 1) rfl)) (fun _ h9 => h9) rfl dX7_isMarked_8 ?_
      refine lv_iconst (v := (4 : Int32)) hx hb dX7_isMarked_11 (by decide) ?_
      obtain ⟨g_1, eg_1, hg_1, hr⟩ := rd_e hr
      refine va_iald hx hb hK hP 1 0 rfl rfl hg_1 dX7_isMarked_12 ?_
      refine tp_ eg_1 ?_
      have tT_3 : ((¬ (g_1 ≤ v4_5)) ∧ (¬ ((f_X7_isPlace v1_5 v2_5) = 0))) → W p l e rmX7_isMarked s m args below meth c H locs 0 0 Q (F0 m 24 ls []) := by
        intro hc_2
        have hr := ite_p hr hc_2
        refine lv_iload_n hx hb dX7_isMarked_24 rfl (lv_at hl 3 rfl) ?_
        refine lv_aload_n hx hb dX7_isMarked_25 rfl (lv_at hl 0 rfl) ?_
        refine lv_aload_n hx hb dX7_isMarked_26 rfl (lv_at hl 0 rfl) ?_
        refine va_get (D := (dC, dI)) (ci := 6) (v := .ref a_o_g) (C := RX7) (T := TX7) (N := 15) hx hb hts iX7 hown hK hP 0 rfl rfl 0 (by decide) (hts (.fieldLink RX7 11 "PascalRowsModel" "g" "[I") (List.mem_of_getElem? (i := 1) rfl)) (fun _ h9 => h9) rfl dX7_isMarked_27 ?_
        refine lv_iconst (v := (5 : Int32)) hx hb dX7_isMarked_30 (by decide) ?_
        refine lv_iconst (v := (2 : Int32)) hx hb dX7_isMarked_31 (by decide) ?_
        refine lv_iload hx hb dX7_isMarked_32 (lv_at hl 4 rfl) ?_
        refine lv_imul hx hb dX7_isMarked_34 ?_
        refine lv_iadd hx hb dX7_isMarked_35 ?_
        obtain ⟨g_4, eg_4, hg_4, hr⟩ := rd_e hr
        refine va_iald hx hb hK hP 1 0 rfl rfl hg_4 dX7_isMarked_36 ?_
        refine tp_ eg_4 ?_
        refine lv_iload_n hx hb dX7_isMarked_37 rfl (lv_at hl 1 rfl) ?_
        refine lv_iload_n hx hb dX7_isMarked_38 rfl (lv_at hl 2 rfl) ?_
        obtain ⟨u_5, hu_5, hr⟩ := bd_e hr
        refine mu_V ⟨hx, hb, hml, hown, hts⟩ (k_X7_tells l dC dI cI cJ a_o a_o_g a_o_kept a_o_was a_o_triangle a_o_text a_o_sort a_o_size a_o_items g_4 v1_5 v2_5 o_isKept o_takenBy_5 o_fed o_place o_letter o_first o_second o_g o_triangle_5 H.size u_5 hu_5) (cwV 3 hts gX7_isMarked_X7_tells rfl rfl rfl (by decide +kernel) ⟨Nat.le_of_ble_eq_true rfl, Nat.le_of_ble_eq_true rfl⟩) hE 0 rfl rfl rfl rfl hl.1 rfl (Nat.le_of_ble_eq_true rfl) dX7_isMarked_39 ⟨Nat.zero_le _, Nat.zero_le _⟩ hP (hD.fst rfl) hS hA [0, 1, 2] [] [0, 1, 2] rfl rfl (by decide) (by decide) rfl (by decide) (W1 := [(a_o, .inr (6, [.ref a_o_g, .ref a_o_kept, .ref a_o_was, .int o_isKept, .ref a_o_triangle, .int u_5.2.2, .ref a_o_text, .int o_fed, .int o_place, .int o_letter, .int o_first, .int o_second, .ref a_o_sort, .ref a_o_size, .ref a_o_items])), (a_o_g, .inl (cI, 64, .inl o_g)), (a_o_triangle, .inl (cI, 16384, .inl u_5.2.1))]) rfl (fun H locs hP hS => W.eq (g2 := F0 m 42 ls [.int u_5.1, .int v3_5]) rfl ?_)
        refine lv_aload_n hx hb dX7_isMarked_42 rfl (lv_at hl 0 rfl) ?_
        refine va_get (D := (dC, dI)) (ci := 6) (v := .ref a_o_g) (C := RX7) (T := TX7) (N := 15) hx hb hts iX7 hown hK hP 0 rfl rfl 0 (by decide) (hts (.fieldLink RX7 11 "PascalRowsModel" "g" "[I") (List.mem_of_getElem? (i := 1) rfl)) (fun _ h9 => h9) rfl dX7_isMarked_43 ?_
        refine lv_bipush (v := (6 : Int32)) hx hb dX7_isMarked_46 (by decide) ?_
        refine lv_iconst (v := (2 : Int32)) hx hb dX7_isMarked_48 (by decide) ?_
        refine lv_iload hx hb dX7_isMarked_49 (lv_at hl 4 rfl) ?_
        refine lv_imul hx hb dX7_isMarked_51 ?_
        refine lv_iadd hx hb dX7_isMarked_52 ?_
        obtain ⟨g_6, eg_6, hg_6, hr⟩ := rd_e hr
        refine va_iald hx hb hK hP 1 0 rfl rfl hg_6 dX7_isMarked_53 ?_
        refine tp_ eg_6 ?_
        have hJ_7 : ∀ (y_8 : Int32) (ey_8 : y_8 = (if (u_5.1 = g_6) then (1 : Int32) else (0 : Int32))) (ls : Array Slot), lv_has ls 5 [(0, .ref a_o), (1, .int v1_5), (2, .int v2_5), (4, .int v4_5)] → W p l e rmX7_isMarked s m args below meth c H locs 0 0 Q (F0 m 62 ls [.int y_8, .int v3_5]) := by
          intro y_8 ey_8 ls hl
          subst ey_8
          refine lv_ior hx hb dX7_isMarked_62 ?_
          refine lv_istore_n (lv' := [(3, .int (v3_5 ||| (if (u_5.1 = g_6) then (1 : Int32) else (0 : Int32)))), (0, .ref a_o), (1, .int v1_5), (2, .int v2_5), (4, .int v4_5)]) hx hb dX7_isMarked_63 rfl hl (by decide) rfl (fun ls hl => ?_)
          refine lv_iinc (v := (v4_5 + (1 : Int32))) (lv' := [(4, .int (v4_5 + (1 : Int32))), (3, .int (v3_5 ||| (if (u_5.1 = g_6) then (1 : Int32) else (0 : Int32)))), (0, .ref a_o), (1, .int v1_5), (2, .int v2_5)]) hx hb dX7_isMarked_64 hl (k := 4) rfl (congrArg (fun z => v4_5 + z) (by decide)) (by decide) rfl (fun ls hl => ?_)
          refine lv_goto (tgt := 5) hx hb dX7_isMarked_67 (by decide) ?_
          exact ih (v3_5 ||| (if (u_5.1 = g_6) then (1 : Int32) else (0 : Int32))) (v4_5 + (1 : Int32)) u_5.2.1 u_5.2.2 ls (lv_sub hl [2, 3, 4, 1, 0] rfl) H locs hP hS hr
        refine lv_icmp_ne (tgt := 61) hx hb dX7_isMarked_54 (by decide) (fun c_9 => ?_) (fun c_9 => ?_)
        · refine lv_iconst (v := (0 : Int32)) hx hb dX7_isMarked_61 (by decide) ?_
          exact hJ_7 _ (if_neg c_9).symm ls (lv_sub hl [0, 1, 2, 4] rfl)
        · refine lv_iconst (v := (1 : Int32)) hx hb dX7_isMarked_57 (by decide) ?_
          refine lv_goto (tgt := 62) hx hb dX7_isMarked_58 (by decide) ?_
          exact hJ_7 _ (if_pos c_9).symm ls (lv_sub hl [0, 1, 2, 4] rfl)
      have tF_10 : ¬ ((¬ (g_1 ≤ v4_5)) ∧ (¬ ((f_X7_isPlace v1_5 v2_5) = 0))) → W p l e rmX7_isMarked s m args below meth c H locs 0 0 Q (F0 m 70 ls []) := by
        intro hc_2
        have hr := ite_n hr hc_2
        exact hk v3_5 o_triangle_5 o_takenBy_5 ls (lv_sub hl [3] rfl) H locs hP hS hr
      refine lv_icmp_ge (tgt := 70) hx hb dX7_isMarked_13 (by decide) (fun c_11 => ?_) (fun c_11 => ?_)
      · exact tF_10 (fun h => (fun h => h c_11) h.1)
      · refine lv_iload_n hx hb dX7_isMarked_16 rfl (lv_at hl 1 rfl) ?_
        refine lv_iload_n hx hb dX7_isMarked_17 rfl (lv_at hl 2 rfl) ?_
        refine ro_S ⟨hx, hb, hml, hown, hts⟩ (k_X7_isPlace l dC dI cI cJ v1_5 v2_5) (va_cwS 2 hts gX7_isMarked_X7_isPlace rfl rfl rfl (by decide +kernel) ⟨Nat.le_of_ble_eq_true rfl, Nat.le_of_ble_eq_true rfl⟩) hE (hP.sub [] rfl) rfl hl.1 rfl (Nat.le_of_ble_eq_true rfl) dX7_isMarked_18 ⟨Nat.zero_le _, Nat.zero_le _⟩ ?_
        refine lv_if_eq (tgt := 70) hx hb dX7_isMarked_21 (by decide) (fun c_12 => ?_) (fun c_12 => ?_)
        · exact tF_10 (fun h => (fun h => h c_12) h.2)
        · exact tT_3 ⟨c_11, c_12⟩
  refine hL5 p0 p1 _ (fun x3_5 xc_o_triangle_5 xc_o_takenBy_5 ls hl H locs hP hS hr => ?_) 5000 (0 : Int32) (0 : Int32) o_triangle o_takenBy ls (lv_sub hl [2, 3, 4, 1, 0] rfl) H locs hP hS hr
  refine lv_iload_n hx hb dX7_isMarked_70 rfl (lv_at hl 0 rfl) ?_
  obtain ⟨hz_13, hr⟩ := bz_e hr
  obtain rfl := Option.some.inj hr
  exact hret H locs _ hP hS (fun Qc free hq hf => W.zret hx hb hrt (nz_ hz_13) hq hf dX7_isMarked_71 hlocks)
/-! X7_prime -/
def rmX7_prime : Room := { frames := 1, cells := 0, slots := 0, locals := 20 }
set_option maxHeartbeats 4000000 in
set_option maxRecDepth 100000 in
theorem k_X7_prime (l : Launch) (dC : Nat → ClassId) (dI : Nat → Nat → Nat) (cI cJ : ClassId) (a_o : Nat) (a_o_g : Nat) (a_o_kept : Nat) (a_o_was : Nat) (a_o_triangle : Nat) (a_o_text : Nat) (a_o_sort : Nat) (a_o_size : Nat) (a_o_items : Nat) (p0 : Int32) (o_isKept : Int32) (o_takenBy : Int32) (o_fed : Int32) (o_place : Int32) (o_letter : Int32) (o_first : Int32) (o_second : Int32) (o_g : Nat → Int32) (sz : Nat) (r : Int32 × (Nat → Int32)) (hr : f_X7_prime p0 o_g = some r) : Met l yX7_prime wsX7_prime rmX7_prime (va_Pc [.ref a_o, .int p0] (pM (dC, dI) cI cJ [(a_o, .inr (6, [.ref a_o_g, .ref a_o_kept, .ref a_o_was, .int o_isKept, .ref a_o_triangle, .int o_takenBy, .ref a_o_text, .int o_fed, .int o_place, .int o_letter, .int o_first, .int o_second, .ref a_o_sort, .ref a_o_size, .ref a_o_items])), (a_o_g, .inl (cI, 64, .inl o_g))] sz)) (qM (some (.int r.1)) (dC, dI) [(a_o, .inr (6, [.ref a_o_g, .ref a_o_kept, .ref a_o_was, .int o_isKept, .ref a_o_triangle, .int o_takenBy, .ref a_o_text, .int o_fed, .int o_place, .int o_letter, .int o_first, .int o_second, .ref a_o_sort, .ref a_o_size, .ref a_o_items])), (a_o_g, .inl (cI, 64, .inl r.2))] (va_A [(a_o, .inr (6, [.ref a_o_g, .ref a_o_kept, .ref a_o_was, .int o_isKept, .ref a_o_triangle, .int o_takenBy, .ref a_o_text, .int o_fed, .int o_place, .int o_letter, .int o_first, .int o_second, .ref a_o_sort, .ref a_o_size, .ref a_o_items])), (a_o_g, .inl (cI, 64, .inl o_g))] sz)) 0 0 (va_A [(a_o, .inr (6, [.ref a_o_g, .ref a_o_kept, .ref a_o_was, .int o_isKept, .ref a_o_triangle, .int o_takenBy, .ref a_o_text, .int o_fed, .int o_place, .int o_letter, .int o_first, .int o_second, .ref a_o_sort, .ref a_o_size, .ref a_o_items])), (a_o_g, .inl (cI, 64, .inl o_g))] sz) := by
  refine mu_of (cc := cX7_prime) (maxL := 3) (by decide) rfl (Nat.le_of_ble_eq_true rfl) ?_
  intro p e s m args below meth c Q ls A hx hb hml hown hts hE hP hD hA hrt hlocks hret hl
  have hK := hE.1
  have hS : va_S A s.heap s.heap [] := va_S.rf
  have hl : lv_has ls 3 [(0, .ref a_o), (1, .int p0)] := hl
  unfold f_X7_prime at hr
  obtain ⟨H, hHe⟩ : ∃ H, H = s.heap := ⟨_, rfl⟩
  obtain ⟨locs, hLe⟩ : ∃ locs : List Loc, locs = [] := ⟨_, rfl⟩
  suffices hgo : va_P (dC, dI) vwCl [(a_o, .inr (6, [.ref a_o_g, .ref a_o_kept, .ref a_o_was, .int o_isKept, .ref a_o_triangle, .int o_takenBy, .ref a_o_text, .int o_fed, .int o_place, .int o_letter, .int o_first, .int o_second, .ref a_o_sort, .ref a_o_size, .ref a_o_items])), (a_o_g, .inl (cI, 64, .inl o_g))] H → va_S A s.heap H locs → W p l e rmX7_prime s m args below meth c H locs 0 0 Q (F0 m 0 ls []) by
    subst hHe; subst hLe; exact hgo hP hS
  clear hP hS hHe hLe
  intro hP hS
  have iX7 : ∀ w ∈ wsX70, w ∈ wsX7_prime := memr_ (big := wsX7_prime) wsX70 [6, 7, 8, 9, 10, 11, 12, 13, 14, 15, 16, 17, 18, 19, 20] (by decide +kernel)
  refine lv_iload_n hx hb dX7_prime_0 rfl (lv_at hl 1 rfl) ?_
  refine ro_S ⟨hx, hb, hml, hown, hts⟩ (k_X7_isPrime l dC dI cI cJ p0) (va_cwS 1 hts gX7_prime_X7_isPrime rfl rfl rfl (by decide +kernel) ⟨Nat.le_of_ble_eq_true rfl, Nat.le_of_ble_eq_true rfl⟩) hE (hP.sub [] rfl) rfl hl.1 rfl (Nat.le_of_ble_eq_true rfl) dX7_prime_1 ⟨Nat.zero_le _, Nat.zero_le _⟩ ?_
  refine lv_if_ne (tgt := 10) hx hb dX7_prime_4 (by decide) (fun c_1 => ?_) (fun c_1 => ?_)
  · have hr := ite_n hr c_1
    refine lv_aload_n hx hb dX7_prime_10 rfl (lv_at hl 0 rfl) ?_
    refine va_get (D := (dC, dI)) (ci := 6) (v := .ref a_o_g) (C := RX7) (T := TX7) (N := 15) hx hb hts iX7 hown hK hP 0 rfl rfl 0 (by decide) (hts (.fieldLink RX7 11 "PascalRowsModel" "g" "[I") (List.mem_of_getElem? (i := 1) rfl)) (fun _ h9 => h9) rfl dX7_prime_11 ?_
    refine lv_iconst (v := (0 : Int32)) hx hb dX7_prime_14 (by decide) ?_
    obtain ⟨g_2, eg_2, hg_2, hr⟩ := rd_e hr
    refine va_iald hx hb hK hP 1 0 rfl rfl hg_2 dX7_prime_15 ?_
    refine tp_ eg_2 ?_
    refine lv_istore_n (lv' := [(2, .int g_2), (0, .ref a_o), (1, .int p0)]) hx hb dX7_prime_16 rfl hl (by decide) rfl (fun ls hl => ?_)
    refine lv_aload_n hx hb dX7_prime_17 rfl (lv_at hl 1 rfl) ?_
    refine va_get (D := (dC, dI)) (ci := 6) (v := .ref a_o_g) (C := RX7) (T := TX7) (N := 15) hx hb hts iX7 hown hK hP 0 rfl rfl 0 (by decide) (hts (.fieldLink RX7 11 "PascalRowsModel" "g" "[I") (List.mem_of_getElem? (i := 1) rfl)) (fun _ h9 => h9) rfl dX7_prime_18 ?_
    refine lv_iconst (v := (0 : Int32)) hx hb dX7_prime_21 (by decide) ?_
    refine lv_iload_n hx hb dX7_prime_22 rfl (lv_at hl 2 rfl) ?_
    obtain ⟨w_3, ew_3, hw_3, hr⟩ := wr_e hr
    refine va_iast hx hb hK hP (hD.fst rfl) hS 1 0 rfl rfl hw_3 dX7_prime_23 (fun H locs hP _ hS => ?_)
    rw [← ew_3] at hP
    have hP : va_P (dC, dI) vwCl [(a_o, .inr (6, [.ref a_o_g, .ref a_o_kept, .ref a_o_was, .int o_isKept, .ref a_o_triangle, .int o_takenBy, .ref a_o_text, .int o_fed, .int o_place, .int o_letter, .int o_first, .int o_second, .ref a_o_sort, .ref a_o_size, .ref a_o_items])), (a_o_g, .inl (cI, 64, .inl w_3))] H := hP
    refine lv_iload_n hx hb dX7_prime_24 rfl (lv_at hl 0 rfl) ?_
    obtain rfl := Option.some.inj hr
    exact hret H locs _ hP hS (fun Qc free hq hf => W.iret hx hb hrt hq hf dX7_prime_25 hlocks)
  · have hr := ite_p hr c_1
    refine lv_bipush (v := (-2 : Int32)) hx hb dX7_prime_7 (by decide) ?_
    obtain rfl := Option.some.inj hr
    exact hret H locs _ hP hS (fun Qc free hq hf => W.iret hx hb hrt hq hf dX7_prime_9 hlocks)
/-! X7_power_ -/
def rmX7_power_ : Room := { frames := 1, cells := 0, slots := 0, locals := 25 }
set_option maxHeartbeats 4000000 in
set_option maxRecDepth 100000 in
theorem k_X7_power_ (l : Launch) (dC : Nat → ClassId) (dI : Nat → Nat → Nat) (cI cJ : ClassId) (a_o : Nat) (a_o_g : Nat) (a_o_kept : Nat) (a_o_was : Nat) (a_o_triangle : Nat) (a_o_text : Nat) (a_o_sort : Nat) (a_o_size : Nat) (a_o_items : Nat) (p0 : Int32) (o_isKept : Int32) (o_takenBy : Int32) (o_fed : Int32) (o_place : Int32) (o_letter : Int32) (o_first : Int32) (o_second : Int32) (o_g : Nat → Int32) (sz : Nat) (r : Int32 × (Nat → Int32)) (hr : f_X7_power_ p0 o_g = some r) : Met l yX7_power_ wsX7_power_ rmX7_power_ (va_Pc [.ref a_o, .int p0] (pM (dC, dI) cI cJ [(a_o, .inr (6, [.ref a_o_g, .ref a_o_kept, .ref a_o_was, .int o_isKept, .ref a_o_triangle, .int o_takenBy, .ref a_o_text, .int o_fed, .int o_place, .int o_letter, .int o_first, .int o_second, .ref a_o_sort, .ref a_o_size, .ref a_o_items])), (a_o_g, .inl (cI, 64, .inl o_g))] sz)) (qM (some (.int r.1)) (dC, dI) [(a_o, .inr (6, [.ref a_o_g, .ref a_o_kept, .ref a_o_was, .int o_isKept, .ref a_o_triangle, .int o_takenBy, .ref a_o_text, .int o_fed, .int o_place, .int o_letter, .int o_first, .int o_second, .ref a_o_sort, .ref a_o_size, .ref a_o_items])), (a_o_g, .inl (cI, 64, .inl r.2))] (va_A [(a_o, .inr (6, [.ref a_o_g, .ref a_o_kept, .ref a_o_was, .int o_isKept, .ref a_o_triangle, .int o_takenBy, .ref a_o_text, .int o_fed, .int o_place, .int o_letter, .int o_first, .int o_second, .ref a_o_sort, .ref a_o_size, .ref a_o_items])), (a_o_g, .inl (cI, 64, .inl o_g))] sz)) 0 0 (va_A [(a_o, .inr (6, [.ref a_o_g, .ref a_o_kept, .ref a_o_was, .int o_isKept, .ref a_o_triangle, .int o_takenBy, .ref a_o_text, .int o_fed, .int o_place, .int o_letter, .int o_first, .int o_second, .ref a_o_sort, .ref a_o_size, .ref a_o_items])), (a_o_g, .inl (cI, 64, .inl o_g))] sz) := by
  refine mu_of (cc := cX7_power_) (maxL := 3) (by decide) rfl (Nat.le_of_ble_eq_true rfl) ?_
  intro p e s m args below meth c Q ls A hx hb hml hown hts hE hP hD hA hrt hlocks hret hl
  have hK := hE.1
  have hS : va_S A s.heap s.heap [] := va_S.rf
  have hl : lv_has ls 3 [(0, .ref a_o), (1, .int p0)] := hl
  unfold f_X7_power_ at hr
  obtain ⟨H, hHe⟩ : ∃ H, H = s.heap := ⟨_, rfl⟩
  obtain ⟨locs, hLe⟩ : ∃ locs : List Loc, locs = [] := ⟨_, rfl⟩
  suffices hgo : va_P (dC, dI) vwCl [(a_o, .inr (6, [.ref a_o_g, .ref a_o_kept, .ref a_o_was, .int o_isKept, .ref a_o_triangle, .int o_takenBy, .ref a_o_text, .int o_fed, .int o_place, .int o_letter, .int o_first, .int o_second, .ref a_o_sort, .ref a_o_size, .ref a_o_items])), (a_o_g, .inl (cI, 64, .inl o_g))] H → va_S A s.heap H locs → W p l e rmX7_power_ s m args below meth c H locs 0 0 Q (F0 m 0 ls []) by
    subst hHe; subst hLe; exact hgo hP hS
  clear hP hS hHe hLe
  intro hP hS
  have iX7 : ∀ w ∈ wsX70, w ∈ wsX7_power_ := memr_ (big := wsX7_power_) wsX70 [7, 8, 9, 10, 11, 12, 13, 14, 15, 16, 17, 18, 19, 20, 21] (by decide +kernel)
  refine lv_iload_n hx hb dX7_power__0 rfl (lv_at hl 1 rfl) ?_
  refine lv_i2l (v := (Int32.toInt64 p0)) hx hb dX7_power__1 rfl ?_
  refine lv_lconst (v := (1 : Int64)) hx hb dX7_power__2 (by decide) ?_
  refine lv_ldc2 (v := (4 : Int64)) hx hb hown (hts (.constantLong RX7 81 (4)) (List.mem_of_getElem? (i := 1) rfl)) dX7_power__3 ?_
  refine ro_S ⟨hx, hb, hml, hown, hts⟩ (k_X7_isIn l dC dI cI cJ (Int32.toInt64 p0) (1 : Int64) (4 : Int64)) (va_cwS 3 hts gX7_power__X7_isIn rfl rfl rfl (by decide +kernel) ⟨Nat.le_of_ble_eq_true rfl, Nat.le_of_ble_eq_true rfl⟩) hE (hP.sub [] rfl) rfl hl.1 rfl (Nat.le_of_ble_eq_true rfl) dX7_power__6 ⟨Nat.zero_le _, Nat.zero_le _⟩ ?_
  refine lv_if_ne (tgt := 15) hx hb dX7_power__9 (by decide) (fun c_1 => ?_) (fun c_1 => ?_)
  · have hr := ite_n hr c_1
    refine lv_aload_n hx hb dX7_power__15 rfl (lv_at hl 0 rfl) ?_
    refine va_get (D := (dC, dI)) (ci := 6) (v := .ref a_o_g) (C := RX7) (T := TX7) (N := 15) hx hb hts iX7 hown hK hP 0 rfl rfl 0 (by decide) (hts (.fieldLink RX7 11 "PascalRowsModel" "g" "[I") (List.mem_of_getElem? (i := 2) rfl)) (fun _ h9 => h9) rfl dX7_power__16 ?_
    refine lv_iconst (v := (1 : Int32)) hx hb dX7_power__19 (by decide) ?_
    obtain ⟨g_2, eg_2, hg_2, hr⟩ := rd_e hr
    refine va_iald hx hb hK hP 1 0 rfl rfl hg_2 dX7_power__20 ?_
    refine tp_ eg_2 ?_
    refine lv_istore_n (lv' := [(2, .int g_2), (0, .ref a_o), (1, .int p0)]) hx hb dX7_power__21 rfl hl (by decide) rfl (fun ls hl => ?_)
    refine lv_aload_n hx hb dX7_power__22 rfl (lv_at hl 1 rfl) ?_
    refine va_get (D := (dC, dI)) (ci := 6) (v := .ref a_o_g) (C := RX7) (T := TX7) (N := 15) hx hb hts iX7 hown hK hP 0 rfl rfl 0 (by decide) (hts (.fieldLink RX7 11 "PascalRowsModel" "g" "[I") (List.mem_of_getElem? (i := 2) rfl)) (fun _ h9 => h9) rfl dX7_power__23 ?_
    refine lv_iconst (v := (1 : Int32)) hx hb dX7_power__26 (by decide) ?_
    refine lv_iload_n hx hb dX7_power__27 rfl (lv_at hl 2 rfl) ?_
    obtain ⟨w_3, ew_3, hw_3, hr⟩ := wr_e hr
    refine va_iast hx hb hK hP (hD.fst rfl) hS 1 0 rfl rfl hw_3 dX7_power__28 (fun H locs hP _ hS => ?_)
    rw [← ew_3] at hP
    have hP : va_P (dC, dI) vwCl [(a_o, .inr (6, [.ref a_o_g, .ref a_o_kept, .ref a_o_was, .int o_isKept, .ref a_o_triangle, .int o_takenBy, .ref a_o_text, .int o_fed, .int o_place, .int o_letter, .int o_first, .int o_second, .ref a_o_sort, .ref a_o_size, .ref a_o_items])), (a_o_g, .inl (cI, 64, .inl w_3))] H := hP
    refine lv_iload_n hx hb dX7_power__29 rfl (lv_at hl 0 rfl) ?_
    obtain rfl := Option.some.inj hr
    exact hret H locs _ hP hS (fun Qc free hq hf => W.iret hx hb hrt hq hf dX7_power__30 hlocks)
  · have hr := ite_p hr c_1
    refine lv_bipush (v := (-2 : Int32)) hx hb dX7_power__12 (by decide) ?_
    obtain rfl := Option.some.inj hr
    exact hret H locs _ hP hS (fun Qc free hq hf => W.iret hx hb hrt hq hf dX7_power__14 hlocks)
/-! X7_mark -/
def rmX7_mark : Room := { frames := 2, cells := 0, slots := 0, locals := 45 }
set_option maxHeartbeats 4000000 in
set_option maxRecDepth 100000 in
theorem k_X7_mark (l : Launch) (dC : Nat → ClassId) (dI : Nat → Nat → Nat) (cI cJ : ClassId) (a_o : Nat) (a_o_g : Nat) (a_o_kept : Nat) (a_o_was : Nat) (a_o_triangle : Nat) (a_o_text : Nat) (a_o_sort : Nat) (a_o_size : Nat) (a_o_items : Nat) (p0 : Int32) (p1 : Int32) (o_isKept : Int32) (o_takenBy : Int32) (o_fed : Int32) (o_place : Int32) (o_letter : Int32) (o_first : Int32) (o_second : Int32) (o_g : Nat → Int32) (sz : Nat) (r : Int32 × (Nat → Int32)) (hr : f_X7_mark p0 p1 o_g = some r) : Met l yX7_mark wsX7_mark rmX7_mark (va_Pc [.ref a_o, .int p0, .int p1] (pM (dC, dI) cI cJ [(a_o, .inr (6, [.ref a_o_g, .ref a_o_kept, .ref a_o_was, .int o_isKept, .ref a_o_triangle, .int o_takenBy, .ref a_o_text, .int o_fed, .int o_place, .int o_letter, .int o_first, .int o_second, .ref a_o_sort, .ref a_o_size, .ref a_o_items])), (a_o_g, .inl (cI, 64, .inl o_g))] sz)) (qM (some (.int r.1)) (dC, dI) [(a_o, .inr (6, [.ref a_o_g, .ref a_o_kept, .ref a_o_was, .int o_isKept, .ref a_o_triangle, .int o_takenBy, .ref a_o_text, .int o_fed, .int o_place, .int o_letter, .int o_first, .int o_second, .ref a_o_sort, .ref a_o_size, .ref a_o_items])), (a_o_g, .inl (cI, 64, .inl r.2))] (va_A [(a_o, .inr (6, [.ref a_o_g, .ref a_o_kept, .ref a_o_was, .int o_isKept, .ref a_o_triangle, .int o_takenBy, .ref a_o_text, .int o_fed, .int o_place, .int o_letter, .int o_first, .int o_second, .ref a_o_sort, .ref a_o_size, .ref a_o_items])), (a_o_g, .inl (cI, 64, .inl o_g))] sz)) 0 0 (va_A [(a_o, .inr (6, [.ref a_o_g, .ref a_o_kept, .ref a_o_was, .int o_isKept, .ref a_o_triangle, .int o_takenBy, .ref a_o_text, .int o_fed, .int o_place, .int o_letter, .int o_first, .int o_second, .ref a_o_sort, .ref a_o_size, .ref a_o_items])), (a_o_g, .inl (cI, 64, .inl o_g))] sz) := by
  refine mu_of (cc := cX7_mark) (maxL := 3) (by decide) rfl (Nat.le_of_ble_eq_true rfl) ?_
  intro p e s m args below meth c Q ls A hx hb hml hown hts hE hP hD hA hrt hlocks hret hl
  have hK := hE.1
  have hS : va_S A s.heap s.heap [] := va_S.rf
  have hl : lv_has ls 3 [(0, .ref a_o), (1, .int p0), (2, .int p1)] := hl
  unfold f_X7_mark at hr
  obtain ⟨H, hHe⟩ : ∃ H, H = s.heap := ⟨_, rfl⟩
  obtain ⟨locs, hLe⟩ : ∃ locs : List Loc, locs = [] := ⟨_, rfl⟩
  suffices hgo : va_P (dC, dI) vwCl [(a_o, .inr (6, [.ref a_o_g, .ref a_o_kept, .ref a_o_was, .int o_isKept, .ref a_o_triangle, .int o_takenBy, .ref a_o_text, .int o_fed, .int o_place, .int o_letter, .int o_first, .int o_second, .ref a_o_sort, .ref a_o_size, .ref a_o_items])), (a_o_g, .inl (cI, 64, .inl o_g))] H → va_S A s.heap H locs → W p l e rmX7_mark s m args below meth c H locs 0 0 Q (F0 m 0 ls []) by
    subst hHe; subst hLe; exact hgo hP hS
  clear hP hS hHe hLe
  intro hP hS
  have iX7 : ∀ w ∈ wsX70, w ∈ wsX7_mark := memr_ (big := wsX7_mark) wsX70 [11, 12, 13, 14, 15, 16, 17, 18, 19, 20, 21, 22, 23, 24, 25] (by decide +kernel)
  refine lv_iload_n hx hb dX7_mark_0 rfl (lv_at hl 1 rfl) ?_
  refine ro_S ⟨hx, hb, hml, hown, hts⟩ (k_X7_isKind l dC dI cI cJ p0) (va_cwS 1 hts gX7_mark_X7_isKind rfl rfl rfl (by decide +kernel) ⟨Nat.le_of_ble_eq_true rfl, Nat.le_of_ble_eq_true rfl⟩) hE (hP.sub [] rfl) rfl hl.1 rfl (Nat.le_of_ble_eq_true rfl) dX7_mark_1 ⟨Nat.zero_le _, Nat.zero_le _⟩ ?_
  refine lv_if_ne (tgt := 9) hx hb dX7_mark_4 (by decide) (fun c_1 => ?_) (fun c_1 => ?_)
  · have hr := ite_n hr c_1
    refine lv_iload_n hx hb dX7_mark_9 rfl (lv_at hl 2 rfl) ?_
    refine lv_i2l (v := (Int32.toInt64 p1)) hx hb dX7_mark_10 rfl ?_
    refine lv_lconst (v := (0 : Int64)) hx hb dX7_mark_11 (by decide) ?_
    refine lv_ldc2 (v := (2400 : Int64)) hx hb hown (hts (.constantLong RX7 97 (2400)) (List.mem_of_getElem? (i := 1) rfl)) dX7_mark_12 ?_
    refine ro_S ⟨hx, hb, hml, hown, hts⟩ (k_X7_isIn l dC dI cI cJ (Int32.toInt64 p1) (0 : Int64) (2400 : Int64)) (va_cwS 3 hts gX7_mark_X7_isIn rfl rfl rfl (by decide +kernel) ⟨Nat.le_of_ble_eq_true rfl, Nat.le_of_ble_eq_true rfl⟩) hE (hP.sub [] rfl) rfl hl.1 rfl (Nat.le_of_ble_eq_true rfl) dX7_mark_15 ⟨Nat.zero_le _, Nat.zero_le _⟩ ?_
    refine lv_if_ne (tgt := 24) hx hb dX7_mark_18 (by decide) (fun c_2 => ?_) (fun c_2 => ?_)
    · have hr := ite_n hr c_2
      refine lv_aload_n hx hb dX7_mark_24 rfl (lv_at hl 0 rfl) ?_
      refine va_get (D := (dC, dI)) (ci := 6) (v := .ref a_o_g) (C := RX7) (T := TX7) (N := 15) hx hb hts iX7 hown hK hP 0 rfl rfl 0 (by decide) (hts (.fieldLink RX7 11 "PascalRowsModel" "g" "[I") (List.mem_of_getElem? (i := 2) rfl)) (fun _ h9 => h9) rfl dX7_mark_25 ?_
      refine lv_iconst (v := (4 : Int32)) hx hb dX7_mark_28 (by decide) ?_
      obtain ⟨g_3, eg_3, hg_3, hr⟩ := rd_e hr
      refine va_iald hx hb hK hP 1 0 rfl rfl hg_3 dX7_mark_29 ?_
      refine tp_ eg_3 ?_
      refine lv_bipush (v := (6 : Int32)) hx hb dX7_mark_30 (by decide) ?_
      refine lv_icmp_ne (tgt := 38) hx hb dX7_mark_32 (by decide) (fun c_4 => ?_) (fun c_4 => ?_)
      · have hr := ite_n hr c_4
        refine lv_aload_n hx hb dX7_mark_38 rfl (lv_at hl 0 rfl) ?_
        refine va_get (D := (dC, dI)) (ci := 6) (v := .ref a_o_g) (C := RX7) (T := TX7) (N := 15) hx hb hts iX7 hown hK hP 0 rfl rfl 0 (by decide) (hts (.fieldLink RX7 11 "PascalRowsModel" "g" "[I") (List.mem_of_getElem? (i := 2) rfl)) (fun _ h9 => h9) rfl dX7_mark_39 ?_
        refine lv_iconst (v := (5 : Int32)) hx hb dX7_mark_42 (by decide) ?_
        refine lv_iconst (v := (2 : Int32)) hx hb dX7_mark_43 (by decide) ?_
        refine lv_aload_n hx hb dX7_mark_44 rfl (lv_at hl 0 rfl) ?_
        refine va_get (D := (dC, dI)) (ci := 6) (v := .ref a_o_g) (C := RX7) (T := TX7) (N := 15) hx hb hts iX7 hown hK hP 0 rfl rfl 0 (by decide) (hts (.fieldLink RX7 11 "PascalRowsModel" "g" "[I") (List.mem_of_getElem? (i := 2) rfl)) (fun _ h9 => h9) rfl dX7_mark_45 ?_
        refine lv_iconst (v := (4 : Int32)) hx hb dX7_mark_48 (by decide) ?_
        obtain ⟨g_5, eg_5, hg_5, hr⟩ := rd_e hr
        refine va_iald hx hb hK hP 1 0 rfl rfl hg_5 dX7_mark_49 ?_
        refine tp_ eg_5 ?_
        refine lv_imul hx hb dX7_mark_50 ?_
        refine lv_iadd hx hb dX7_mark_51 ?_
        refine lv_iload_n hx hb dX7_mark_52 rfl (lv_at hl 1 rfl) ?_
        obtain ⟨w_6, ew_6, hw_6, hr⟩ := wr_e hr
        refine va_iast hx hb hK hP (hD.fst rfl) hS 1 0 rfl rfl hw_6 dX7_mark_53 (fun H locs hP _ hS => ?_)
        rw [← ew_6] at hP
        have hP : va_P (dC, dI) vwCl [(a_o, .inr (6, [.ref a_o_g, .ref a_o_kept, .ref a_o_was, .int o_isKept, .ref a_o_triangle, .int o_takenBy, .ref a_o_text, .int o_fed, .int o_place, .int o_letter, .int o_first, .int o_second, .ref a_o_sort, .ref a_o_size, .ref a_o_items])), (a_o_g, .inl (cI, 64, .inl w_6))] H := hP
        refine lv_aload_n hx hb dX7_mark_54 rfl (lv_at hl 0 rfl) ?_
        refine va_get (D := (dC, dI)) (ci := 6) (v := .ref a_o_g) (C := RX7) (T := TX7) (N := 15) hx hb hts iX7 hown hK hP 0 rfl rfl 0 (by decide) (hts (.fieldLink RX7 11 "PascalRowsModel" "g" "[I") (List.mem_of_getElem? (i := 2) rfl)) (fun _ h9 => h9) rfl dX7_mark_55 ?_
        refine lv_bipush (v := (6 : Int32)) hx hb dX7_mark_58 (by decide) ?_
        refine lv_iconst (v := (2 : Int32)) hx hb dX7_mark_60 (by decide) ?_
        refine lv_aload_n hx hb dX7_mark_61 rfl (lv_at hl 0 rfl) ?_
        refine va_get (D := (dC, dI)) (ci := 6) (v := .ref a_o_g) (C := RX7) (T := TX7) (N := 15) hx hb hts iX7 hown hK hP 0 rfl rfl 0 (by decide) (hts (.fieldLink RX7 11 "PascalRowsModel" "g" "[I") (List.mem_of_getElem? (i := 2) rfl)) (fun _ h9 => h9) rfl dX7_mark_62 ?_
        refine lv_iconst (v := (4 : Int32)) hx hb dX7_mark_65 (by decide) ?_
        obtain ⟨g_7, eg_7, hg_7, hr⟩ := rd_e hr
        refine va_iald hx hb hK hP 1 0 rfl rfl hg_7 dX7_mark_66 ?_
        refine tp_ eg_7 ?_
        refine lv_imul hx hb dX7_mark_67 ?_
        refine lv_iadd hx hb dX7_mark_68 ?_
        refine lv_iload_n hx hb dX7_mark_69 rfl (lv_at hl 2 rfl) ?_
        obtain ⟨w_8, ew_8, hw_8, hr⟩ := wr_e hr
        refine va_iast hx hb hK hP (hD.fst rfl) hS 1 0 rfl rfl hw_8 dX7_mark_70 (fun H locs hP _ hS => ?_)
        rw [← ew_8] at hP
        have hP : va_P (dC, dI) vwCl [(a_o, .inr (6, [.ref a_o_g, .ref a_o_kept, .ref a_o_was, .int o_isKept, .ref a_o_triangle, .int o_takenBy, .ref a_o_text, .int o_fed, .int o_place, .int o_letter, .int o_first, .int o_second, .ref a_o_sort, .ref a_o_size, .ref a_o_items])), (a_o_g, .inl (cI, 64, .inl w_8))] H := hP
        refine lv_aload_n hx hb dX7_mark_71 rfl (lv_at hl 0 rfl) ?_
        refine va_get (D := (dC, dI)) (ci := 6) (v := .ref a_o_g) (C := RX7) (T := TX7) (N := 15) hx hb hts iX7 hown hK hP 0 rfl rfl 0 (by decide) (hts (.fieldLink RX7 11 "PascalRowsModel" "g" "[I") (List.mem_of_getElem? (i := 2) rfl)) (fun _ h9 => h9) rfl dX7_mark_72 ?_
        refine lv_iconst (v := (4 : Int32)) hx hb dX7_mark_75 (by decide) ?_
        refine lv_dup2_11 hx hb dX7_mark_76 rfl rfl ?_
        obtain ⟨g_9, eg_9, hg_9, hr⟩ := rd_e hr
        refine va_iald hx hb hK hP 1 0 rfl rfl hg_9 dX7_mark_77 ?_
        refine tp_ eg_9 ?_
        refine lv_iconst (v := (1 : Int32)) hx hb dX7_mark_78 (by decide) ?_
        refine lv_iadd hx hb dX7_mark_79 ?_
        obtain ⟨w_10, ew_10, hw_10, hr⟩ := wr_e hr
        refine va_iast hx hb hK hP (hD.fst rfl) hS 1 0 rfl rfl hw_10 dX7_mark_80 (fun H locs hP _ hS => ?_)
        rw [← ew_10] at hP
        have hP : va_P (dC, dI) vwCl [(a_o, .inr (6, [.ref a_o_g, .ref a_o_kept, .ref a_o_was, .int o_isKept, .ref a_o_triangle, .int o_takenBy, .ref a_o_text, .int o_fed, .int o_place, .int o_letter, .int o_first, .int o_second, .ref a_o_sort, .ref a_o_size, .ref a_o_items])), (a_o_g, .inl (cI, 64, .inl w_10))] H := hP
        refine lv_aload_n hx hb dX7_mark_81 rfl (lv_at hl 0 rfl) ?_
        refine va_get (D := (dC, dI)) (ci := 6) (v := .ref a_o_g) (C := RX7) (T := TX7) (N := 15) hx hb hts iX7 hown hK hP 0 rfl rfl 0 (by decide) (hts (.fieldLink RX7 11 "PascalRowsModel" "g" "[I") (List.mem_of_getElem? (i := 2) rfl)) (fun _ h9 => h9) rfl dX7_mark_82 ?_
        refine lv_iconst (v := (4 : Int32)) hx hb dX7_mark_85 (by decide) ?_
        obtain ⟨g_11, eg_11, hg_11, hr⟩ := rd_e hr
        refine va_iald hx hb hK hP 1 0 rfl rfl hg_11 dX7_mark_86 ?_
        refine tp_ eg_11 ?_
        obtain rfl := Option.some.inj hr
        exact hret H locs _ hP hS (fun Qc free hq hf => W.iret hx hb hrt hq hf dX7_mark_87 hlocks)
      · have hr := ite_p hr c_4
        refine lv_bipush (v := (-4 : Int32)) hx hb dX7_mark_35 (by decide) ?_
        obtain rfl := Option.some.inj hr
        exact hret H locs _ hP hS (fun Qc free hq hf => W.iret hx hb hrt hq hf dX7_mark_37 hlocks)
    · have hr := ite_p hr c_2
      refine lv_bipush (v := (-2 : Int32)) hx hb dX7_mark_21 (by decide) ?_
      obtain rfl := Option.some.inj hr
      exact hret H locs _ hP hS (fun Qc free hq hf => W.iret hx hb hrt hq hf dX7_mark_23 hlocks)
  · have hr := ite_p hr c_1
    refine lv_iconst (v := (-1 : Int32)) hx hb dX7_mark_7 (by decide) ?_
    obtain rfl := Option.some.inj hr
    exact hret H locs _ hP hS (fun Qc free hq hf => W.iret hx hb hrt hq hf dX7_mark_8 hlocks)
/-! X7_clear -/
def rmX7_clear : Room := { frames := 0, cells := 0, slots := 0, locals := 0 }
set_option maxHeartbeats 4000000 in
set_option maxRecDepth 100000 in
theorem k_X7_clear (l : Launch) (dC : Nat → ClassId) (dI : Nat → Nat → Nat) (cI cJ : ClassId) (a_o : Nat) (a_o_g : Nat) (a_o_kept : Nat) (a_o_was : Nat) (a_o_triangle : Nat) (a_o_text : Nat) (a_o_sort : Nat) (a_o_size : Nat) (a_o_items : Nat) (o_isKept : Int32) (o_takenBy : Int32) (o_fed : Int32) (o_place : Int32) (o_letter : Int32) (o_first : Int32) (o_second : Int32) (o_g : Nat → Int32) (sz : Nat) (r : Int32 × (Nat → Int32)) (hr : f_X7_clear o_g = some r) : Met l yX7_clear wsX7_clear rmX7_clear (va_Pc [.ref a_o] (pM (dC, dI) cI cJ [(a_o, .inr (6, [.ref a_o_g, .ref a_o_kept, .ref a_o_was, .int o_isKept, .ref a_o_triangle, .int o_takenBy, .ref a_o_text, .int o_fed, .int o_place, .int o_letter, .int o_first, .int o_second, .ref a_o_sort, .ref a_o_size, .ref a_o_items])), (a_o_g, .inl (cI, 64, .inl o_g))] sz)) (qM (some (.int r.1)) (dC, dI) [(a_o, .inr (6, [.ref a_o_g, .ref a_o_kept, .ref a_o_was, .int o_isKept, .ref a_o_triangle, .int o_takenBy, .ref a_o_text, .int o_fed, .int o_place, .int o_letter, .int o_first, .int o_second, .ref a_o_sort, .ref a_o_size, .ref a_o_items])), (a_o_g, .inl (cI, 64, .inl r.2))] (va_A [(a_o, .inr (6, [.ref a_o_g, .ref a_o_kept, .ref a_o_was, .int o_isKept, .ref a_o_triangle, .int o_takenBy, .ref a_o_text, .int o_fed, .int o_place, .int o_letter, .int o_first, .int o_second, .ref a_o_sort, .ref a_o_size, .ref a_o_items])), (a_o_g, .inl (cI, 64, .inl o_g))] sz)) 0 0 (va_A [(a_o, .inr (6, [.ref a_o_g, .ref a_o_kept, .ref a_o_was, .int o_isKept, .ref a_o_triangle, .int o_takenBy, .ref a_o_text, .int o_fed, .int o_place, .int o_letter, .int o_first, .int o_second, .ref a_o_sort, .ref a_o_size, .ref a_o_items])), (a_o_g, .inl (cI, 64, .inl o_g))] sz) := by
  refine mu_of (cc := cX7_clear) (maxL := 2) (by decide) rfl (Nat.le_of_ble_eq_true rfl) ?_
  intro p e s m args below meth c Q ls A hx hb hml hown hts hE hP hD hA hrt hlocks hret hl
  have hK := hE.1
  have hS : va_S A s.heap s.heap [] := va_S.rf
  have hl : lv_has ls 2 [(0, .ref a_o)] := hl
  unfold f_X7_clear at hr
  obtain ⟨H, hHe⟩ : ∃ H, H = s.heap := ⟨_, rfl⟩
  obtain ⟨locs, hLe⟩ : ∃ locs : List Loc, locs = [] := ⟨_, rfl⟩
  suffices hgo : va_P (dC, dI) vwCl [(a_o, .inr (6, [.ref a_o_g, .ref a_o_kept, .ref a_o_was, .int o_isKept, .ref a_o_triangle, .int o_takenBy, .ref a_o_text, .int o_fed, .int o_place, .int o_letter, .int o_first, .int o_second, .ref a_o_sort, .ref a_o_size, .ref a_o_items])), (a_o_g, .inl (cI, 64, .inl o_g))] H → va_S A s.heap H locs → W p l e rmX7_clear s m args below meth c H locs 0 0 Q (F0 m 0 ls []) by
    subst hHe; subst hLe; exact hgo hP hS
  clear hP hS hHe hLe
  intro hP hS
  have iX7 : ∀ w ∈ wsX70, w ∈ wsX7_clear := memr_ (big := wsX7_clear) wsX70 [2, 3, 4, 5, 6, 7, 8, 9, 10, 11, 12, 13, 14, 15, 16] (by decide +kernel)
  refine lv_aload_n hx hb dX7_clear_0 rfl (lv_at hl 0 rfl) ?_
  refine va_get (D := (dC, dI)) (ci := 6) (v := .ref a_o_g) (C := RX7) (T := TX7) (N := 15) hx hb hts iX7 hown hK hP 0 rfl rfl 0 (by decide) (hts (.fieldLink RX7 11 "PascalRowsModel" "g" "[I") (List.mem_of_getElem? (i := 1) rfl)) (fun _ h9 => h9) rfl dX7_clear_1 ?_
  refine lv_iconst (v := (4 : Int32)) hx hb dX7_clear_4 (by decide) ?_
  obtain ⟨g_1, eg_1, hg_1, hr⟩ := rd_e hr
  refine va_iald hx hb hK hP 1 0 rfl rfl hg_1 dX7_clear_5 ?_
  refine tp_ eg_1 ?_
  refine lv_istore_n (lv' := [(1, .int g_1), (0, .ref a_o)]) hx hb dX7_clear_6 rfl hl (by decide) rfl (fun ls hl => ?_)
  refine lv_aload_n hx hb dX7_clear_7 rfl (lv_at hl 1 rfl) ?_
  refine va_get (D := (dC, dI)) (ci := 6) (v := .ref a_o_g) (C := RX7) (T := TX7) (N := 15) hx hb hts iX7 hown hK hP 0 rfl rfl 0 (by decide) (hts (.fieldLink RX7 11 "PascalRowsModel" "g" "[I") (List.mem_of_getElem? (i := 1) rfl)) (fun _ h9 => h9) rfl dX7_clear_8 ?_
  refine lv_iconst (v := (4 : Int32)) hx hb dX7_clear_11 (by decide) ?_
  refine lv_iconst (v := (0 : Int32)) hx hb dX7_clear_12 (by decide) ?_
  obtain ⟨w_2, ew_2, hw_2, hr⟩ := wr_e hr
  refine va_iast hx hb hK hP (hD.fst rfl) hS 1 0 rfl rfl hw_2 dX7_clear_13 (fun H locs hP _ hS => ?_)
  rw [← ew_2] at hP
  have hP : va_P (dC, dI) vwCl [(a_o, .inr (6, [.ref a_o_g, .ref a_o_kept, .ref a_o_was, .int o_isKept, .ref a_o_triangle, .int o_takenBy, .ref a_o_text, .int o_fed, .int o_place, .int o_letter, .int o_first, .int o_second, .ref a_o_sort, .ref a_o_size, .ref a_o_items])), (a_o_g, .inl (cI, 64, .inl w_2))] H := hP
  refine lv_iload_n hx hb dX7_clear_14 rfl (lv_at hl 0 rfl) ?_
  obtain rfl := Option.some.inj hr
  exact hret H locs _ hP hS (fun Qc free hq hf => W.iret hx hb hrt hq hf dX7_clear_15 hlocks)
/-! X7_window -/
def rmX7_window : Room := { frames := 2, cells := 0, slots := 0, locals := 45 }
set_option maxHeartbeats 4000000 in
set_option maxRecDepth 100000 in
theorem k_X7_window (l : Launch) (dC : Nat → ClassId) (dI : Nat → Nat → Nat) (cI cJ : ClassId) (a_o : Nat) (a_o_g : Nat) (a_o_kept : Nat) (a_o_was : Nat) (a_o_triangle : Nat) (a_o_text : Nat) (a_o_sort : Nat) (a_o_size : Nat) (a_o_items : Nat) (p0 : Int32) (p1 : Int32) (o_isKept : Int32) (o_takenBy : Int32) (o_fed : Int32) (o_place : Int32) (o_letter : Int32) (o_first : Int32) (o_second : Int32) (o_g : Nat → Int32) (sz : Nat) (r : Int32 × (Nat → Int32)) (hr : f_X7_window p0 p1 o_g = some r) : Met l yX7_window wsX7_window rmX7_window (va_Pc [.ref a_o, .int p0, .int p1] (pM (dC, dI) cI cJ [(a_o, .inr (6, [.ref a_o_g, .ref a_o_kept, .ref a_o_was, .int o_isKept, .ref a_o_triangle, .int o_takenBy, .ref a_o_text, .int o_fed, .int o_place, .int o_letter, .int o_first, .int o_second, .ref a_o_sort, .ref a_o_size, .ref a_o_items])), (a_o_g, .inl (cI, 64, .inl o_g))] sz)) (qM (some (.int r.1)) (dC, dI) [(a_o, .inr (6, [.ref a_o_g, .ref a_o_kept, .ref a_o_was, .int o_isKept, .ref a_o_triangle, .int o_takenBy, .ref a_o_text, .int o_fed, .int o_place, .int o_letter, .int o_first, .int o_second, .ref a_o_sort, .ref a_o_size, .ref a_o_items])), (a_o_g, .inl (cI, 64, .inl r.2))] (va_A [(a_o, .inr (6, [.ref a_o_g, .ref a_o_kept, .ref a_o_was, .int o_isKept, .ref a_o_triangle, .int o_takenBy, .ref a_o_text, .int o_fed, .int o_place, .int o_letter, .int o_first, .int o_second, .ref a_o_sort, .ref a_o_size, .ref a_o_items])), (a_o_g, .inl (cI, 64, .inl o_g))] sz)) 0 0 (va_A [(a_o, .inr (6, [.ref a_o_g, .ref a_o_kept, .ref a_o_was, .int o_isKept, .ref a_o_triangle, .int o_takenBy, .ref a_o_text, .int o_fed, .int o_place, .int o_letter, .int o_first, .int o_second, .ref a_o_sort, .ref a_o_size, .ref a_o_items])), (a_o_g, .inl (cI, 64, .inl o_g))] sz) := by
  refine mu_of (cc := cX7_window) (maxL := 4) (by decide) rfl (Nat.le_of_ble_eq_true rfl) ?_
  intro p e s m args below meth c Q ls A hx hb hml hown hts hE hP hD hA hrt hlocks hret hl
  have hK := hE.1
  have hS : va_S A s.heap s.heap [] := va_S.rf
  have hl : lv_has ls 4 [(0, .ref a_o), (1, .int p0), (2, .int p1)] := hl
  unfold f_X7_window at hr
  obtain ⟨H, hHe⟩ : ∃ H, H = s.heap := ⟨_, rfl⟩
  obtain ⟨locs, hLe⟩ : ∃ locs : List Loc, locs = [] := ⟨_, rfl⟩
  suffices hgo : va_P (dC, dI) vwCl [(a_o, .inr (6, [.ref a_o_g, .ref a_o_kept, .ref a_o_was, .int o_isKept, .ref a_o_triangle, .int o_takenBy, .ref a_o_text, .int o_fed, .int o_place, .int o_letter, .int o_first, .int o_second, .ref a_o_sort, .ref a_o_size, .ref a_o_items])), (a_o_g, .inl (cI, 64, .inl o_g))] H → va_S A s.heap H locs → W p l e rmX7_window s m args below meth c H locs 0 0 Q (F0 m 0 ls []) by
    subst hHe; subst hLe; exact hgo hP hS
  clear hP hS hHe hLe
  intro hP hS
  have iX7 : ∀ w ∈ wsX70, w ∈ wsX7_window := memr_ (big := wsX7_window) wsX70 [10, 11, 12, 13, 14, 15, 16, 17, 18, 19, 20, 21, 22, 23, 24] (by decide +kernel)
  refine lv_iload_n hx hb dX7_window_0 rfl (lv_at hl 1 rfl) ?_
  refine ro_S ⟨hx, hb, hml, hown, hts⟩ (k_X7_isRow l dC dI cI cJ p0) (va_cwS 1 hts gX7_window_X7_isRow rfl rfl rfl (by decide +kernel) ⟨Nat.le_of_ble_eq_true rfl, Nat.le_of_ble_eq_true rfl⟩) hE (hP.sub [] rfl) rfl hl.1 rfl (Nat.le_of_ble_eq_true rfl) dX7_window_1 ⟨Nat.zero_le _, Nat.zero_le _⟩ ?_
  have tT_2 : (((f_X7_isRow p0) = 0) ∨ ((f_X7_isRow p1) = 0)) → W p l e rmX7_window s m args below meth c H locs 0 0 Q (F0 m 14 ls []) := by
    intro hc_1
    have hr := ite_p hr hc_1
    refine lv_bipush (v := (-2 : Int32)) hx hb dX7_window_14 (by decide) ?_
    obtain rfl := Option.some.inj hr
    exact hret H locs _ hP hS (fun Qc free hq hf => W.iret hx hb hrt hq hf dX7_window_16 hlocks)
  have tF_3 : ¬ (((f_X7_isRow p0) = 0) ∨ ((f_X7_isRow p1) = 0)) → W p l e rmX7_window s m args below meth c H locs 0 0 Q (F0 m 17 ls []) := by
    intro hc_1
    have hr := ite_n hr hc_1
    refine lv_sipush (v := (1000 : Int32)) hx hb dX7_window_17 (by decide) ?_
    refine lv_aload_n hx hb dX7_window_20 rfl (lv_at hl 0 rfl) ?_
    refine va_get (D := (dC, dI)) (ci := 6) (v := .ref a_o_g) (C := RX7) (T := TX7) (N := 15) hx hb hts iX7 hown hK hP 0 rfl rfl 0 (by decide) (hts (.fieldLink RX7 11 "PascalRowsModel" "g" "[I") (List.mem_of_getElem? (i := 1) rfl)) (fun _ h9 => h9) rfl dX7_window_21 ?_
    refine lv_iconst (v := (2 : Int32)) hx hb dX7_window_24 (by decide) ?_
    obtain ⟨g_4, eg_4, hg_4, hr⟩ := rd_e hr
    refine va_iald hx hb hK hP 1 0 rfl rfl hg_4 dX7_window_25 ?_
    refine tp_ eg_4 ?_
    refine lv_imul hx hb dX7_window_26 ?_
    refine lv_aload_n hx hb dX7_window_27 rfl (lv_at hl 0 rfl) ?_
    refine va_get (D := (dC, dI)) (ci := 6) (v := .ref a_o_g) (C := RX7) (T := TX7) (N := 15) hx hb hts iX7 hown hK hP 0 rfl rfl 0 (by decide) (hts (.fieldLink RX7 11 "PascalRowsModel" "g" "[I") (List.mem_of_getElem? (i := 1) rfl)) (fun _ h9 => h9) rfl dX7_window_28 ?_
    refine lv_iconst (v := (3 : Int32)) hx hb dX7_window_31 (by decide) ?_
    obtain ⟨g_5, eg_5, hg_5, hr⟩ := rd_e hr
    refine va_iald hx hb hK hP 1 0 rfl rfl hg_5 dX7_window_32 ?_
    refine tp_ eg_5 ?_
    refine lv_iadd hx hb dX7_window_33 ?_
    refine lv_istore_n (lv' := [(3, .int (((1000 : Int32) * g_4) + g_5)), (0, .ref a_o), (1, .int p0), (2, .int p1)]) hx hb dX7_window_34 rfl hl (by decide) rfl (fun ls hl => ?_)
    refine lv_aload_n hx hb dX7_window_35 rfl (lv_at hl 1 rfl) ?_
    refine va_get (D := (dC, dI)) (ci := 6) (v := .ref a_o_g) (C := RX7) (T := TX7) (N := 15) hx hb hts iX7 hown hK hP 0 rfl rfl 0 (by decide) (hts (.fieldLink RX7 11 "PascalRowsModel" "g" "[I") (List.mem_of_getElem? (i := 1) rfl)) (fun _ h9 => h9) rfl dX7_window_36 ?_
    refine lv_iconst (v := (2 : Int32)) hx hb dX7_window_39 (by decide) ?_
    refine lv_iload_n hx hb dX7_window_40 rfl (lv_at hl 2 rfl) ?_
    obtain ⟨w_6, ew_6, hw_6, hr⟩ := wr_e hr
    refine va_iast hx hb hK hP (hD.fst rfl) hS 1 0 rfl rfl hw_6 dX7_window_41 (fun H locs hP _ hS => ?_)
    rw [← ew_6] at hP
    have hP : va_P (dC, dI) vwCl [(a_o, .inr (6, [.ref a_o_g, .ref a_o_kept, .ref a_o_was, .int o_isKept, .ref a_o_triangle, .int o_takenBy, .ref a_o_text, .int o_fed, .int o_place, .int o_letter, .int o_first, .int o_second, .ref a_o_sort, .ref a_o_size, .ref a_o_items])), (a_o_g, .inl (cI, 64, .inl w_6))] H := hP
    refine lv_aload_n hx hb dX7_window_42 rfl (lv_at hl 1 rfl) ?_
    refine va_get (D := (dC, dI)) (ci := 6) (v := .ref a_o_g) (C := RX7) (T := TX7) (N := 15) hx hb hts iX7 hown hK hP 0 rfl rfl 0 (by decide) (hts (.fieldLink RX7 11 "PascalRowsModel" "g" "[I") (List.mem_of_getElem? (i := 1) rfl)) (fun _ h9 => h9) rfl dX7_window_43 ?_
    refine lv_iconst (v := (3 : Int32)) hx hb dX7_window_46 (by decide) ?_
    refine lv_iload_n hx hb dX7_window_47 rfl (lv_at hl 3 rfl) ?_
    obtain ⟨w_7, ew_7, hw_7, hr⟩ := wr_e hr
    refine va_iast hx hb hK hP (hD.fst rfl) hS 1 0 rfl rfl hw_7 dX7_window_48 (fun H locs hP _ hS => ?_)
    rw [← ew_7] at hP
    have hP : va_P (dC, dI) vwCl [(a_o, .inr (6, [.ref a_o_g, .ref a_o_kept, .ref a_o_was, .int o_isKept, .ref a_o_triangle, .int o_takenBy, .ref a_o_text, .int o_fed, .int o_place, .int o_letter, .int o_first, .int o_second, .ref a_o_sort, .ref a_o_size, .ref a_o_items])), (a_o_g, .inl (cI, 64, .inl w_7))] H := hP
    refine lv_iload_n hx hb dX7_window_49 rfl (lv_at hl 0 rfl) ?_
    obtain rfl := Option.some.inj hr
    exact hret H locs _ hP hS (fun Qc free hq hf => W.iret hx hb hrt hq hf dX7_window_50 hlocks)
  refine lv_if_eq (tgt := 14) hx hb dX7_window_4 (by decide) (fun c_8 => ?_) (fun c_8 => ?_)
  · exact tT_2 (Or.inl c_8)
  · refine lv_iload_n hx hb dX7_window_7 rfl (lv_at hl 2 rfl) ?_
    refine ro_S ⟨hx, hb, hml, hown, hts⟩ (k_X7_isRow l dC dI cI cJ p1) (va_cwS 1 hts gX7_window_X7_isRow rfl rfl rfl (by decide +kernel) ⟨Nat.le_of_ble_eq_true rfl, Nat.le_of_ble_eq_true rfl⟩) hE (hP.sub [] rfl) rfl hl.1 rfl (Nat.le_of_ble_eq_true rfl) dX7_window_8 ⟨Nat.zero_le _, Nat.zero_le _⟩ ?_
    refine lv_if_ne (tgt := 17) hx hb dX7_window_11 (by decide) (fun c_9 => ?_) (fun c_9 => ?_)
    · exact tF_3 (fun h => h.elim c_8 c_9)
    · exact tT_2 (Or.inr c_9)
/-! X7_feed -/
def rmX7_feed : Room := { frames := 1, cells := 0, slots := 0, locals := 25 }
set_option maxHeartbeats 4000000 in
set_option maxRecDepth 100000 in
theorem k_X7_feed (l : Launch) (dC : Nat → ClassId) (dI : Nat → Nat → Nat) (cI cJ : ClassId) (a_o : Nat) (a_o_g : Nat) (a_o_kept : Nat) (a_o_was : Nat) (a_o_triangle : Nat) (a_o_text : Nat) (a_o_sort : Nat) (a_o_size : Nat) (a_o_items : Nat) (p0 : Int32) (o_isKept : Int32) (o_takenBy : Int32) (o_fed : Int32) (o_place : Int32) (o_letter : Int32) (o_first : Int32) (o_second : Int32) (o_text : Nat → Int32) (sz : Nat) (r : Int32 × (Nat → Int32) × Int32) (hr : f_X7_feed p0 o_text o_fed = some r) : Met l yX7_feed wsX7_feed rmX7_feed (va_Pc [.ref a_o, .int p0] (pM (dC, dI) cI cJ [(a_o, .inr (6, [.ref a_o_g, .ref a_o_kept, .ref a_o_was, .int o_isKept, .ref a_o_triangle, .int o_takenBy, .ref a_o_text, .int o_fed, .int o_place, .int o_letter, .int o_first, .int o_second, .ref a_o_sort, .ref a_o_size, .ref a_o_items])), (a_o_text, .inl (cI, 100, .inl o_text))] sz)) (qM (some (.int r.1)) (dC, dI) [(a_o, .inr (6, [.ref a_o_g, .ref a_o_kept, .ref a_o_was, .int o_isKept, .ref a_o_triangle, .int o_takenBy, .ref a_o_text, .int r.2.2, .int o_place, .int o_letter, .int o_first, .int o_second, .ref a_o_sort, .ref a_o_size, .ref a_o_items])), (a_o_text, .inl (cI, 100, .inl r.2.1))] (va_A [(a_o, .inr (6, [.ref a_o_g, .ref a_o_kept, .ref a_o_was, .int o_isKept, .ref a_o_triangle, .int o_takenBy, .ref a_o_text, .int o_fed, .int o_place, .int o_letter, .int o_first, .int o_second, .ref a_o_sort, .ref a_o_size, .ref a_o_items])), (a_o_text, .inl (cI, 100, .inl o_text))] sz)) 0 0 (va_A [(a_o, .inr (6, [.ref a_o_g, .ref a_o_kept, .ref a_o_was, .int o_isKept, .ref a_o_triangle, .int o_takenBy, .ref a_o_text, .int o_fed, .int o_place, .int o_letter, .int o_first, .int o_second, .ref a_o_sort, .ref a_o_size, .ref a_o_items])), (a_o_text, .inl (cI, 100, .inl o_text))] sz) := by
  refine mu_of (cc := cX7_feed) (maxL := 2) (by decide) rfl (Nat.le_of_ble_eq_true rfl) ?_
  intro p e s m args below meth c Q ls A hx hb hml hown hts hE hP hD hA hrt hlocks hret hl
  have hK := hE.1
  have hS : va_S A s.heap s.heap [] := va_S.rf
  have hl : lv_has ls 2 [(0, .ref a_o), (1, .int p0)] := hl
  unfold f_X7_feed at hr
  obtain ⟨H, hHe⟩ : ∃ H, H = s.heap := ⟨_, rfl⟩
  obtain ⟨locs, hLe⟩ : ∃ locs : List Loc, locs = [] := ⟨_, rfl⟩
  suffices hgo : va_P (dC, dI) vwCl [(a_o, .inr (6, [.ref a_o_g, .ref a_o_kept, .ref a_o_was, .int o_isKept, .ref a_o_triangle, .int o_takenBy, .ref a_o_text, .int o_fed, .int o_place, .int o_letter, .int o_first, .int o_second, .ref a_o_sort, .ref a_o_size, .ref a_o_items])), (a_o_text, .inl (cI, 100, .inl o_text))] H → va_S A s.heap H locs → W p l e rmX7_feed s m args below meth c H locs 0 0 Q (F0 m 0 ls []) by
    subst hHe; subst hLe; exact hgo hP hS
  clear hP hS hHe hLe
  intro hP hS
  have iX7 : ∀ w ∈ wsX70, w ∈ wsX7_feed := memr_ (big := wsX7_feed) wsX70 [8, 9, 10, 11, 12, 13, 14, 15, 16, 17, 18, 19, 20, 21, 22] (by decide +kernel)
  refine lv_iload_n hx hb dX7_feed_0 rfl (lv_at hl 1 rfl) ?_
  refine lv_i2l (v := (Int32.toInt64 p0)) hx hb dX7_feed_1 rfl ?_
  refine lv_lconst (v := (0 : Int64)) hx hb dX7_feed_2 (by decide) ?_
  refine lv_ldc2 (v := (127 : Int64)) hx hb hown (hts (.constantLong RX7 53 (127)) (List.mem_of_getElem? (i := 1) rfl)) dX7_feed_3 ?_
  refine ro_S ⟨hx, hb, hml, hown, hts⟩ (k_X7_isIn l dC dI cI cJ (Int32.toInt64 p0) (0 : Int64) (127 : Int64)) (va_cwS 3 hts gX7_feed_X7_isIn rfl rfl rfl (by decide +kernel) ⟨Nat.le_of_ble_eq_true rfl, Nat.le_of_ble_eq_true rfl⟩) hE (hP.sub [] rfl) rfl hl.1 rfl (Nat.le_of_ble_eq_true rfl) dX7_feed_6 ⟨Nat.zero_le _, Nat.zero_le _⟩ ?_
  refine lv_if_ne (tgt := 15) hx hb dX7_feed_9 (by decide) (fun c_1 => ?_) (fun c_1 => ?_)
  · have hr := ite_n hr c_1
    refine lv_aload_n hx hb dX7_feed_15 rfl (lv_at hl 0 rfl) ?_
    refine va_get (D := (dC, dI)) (ci := 6) (v := .int o_fed) (C := RX7) (T := TX7) (N := 15) hx hb hts iX7 hown hK hP 0 rfl rfl 7 (by decide) (hts (.fieldLink RX7 99 "PascalRowsModel" "fed" "I") (List.mem_of_getElem? (i := 2) rfl)) (fun _ h9 => h9) rfl dX7_feed_16 ?_
    refine lv_bipush (v := (100 : Int32)) hx hb dX7_feed_19 (by decide) ?_
    refine lv_icmp_ne (tgt := 27) hx hb dX7_feed_21 (by decide) (fun c_2 => ?_) (fun c_2 => ?_)
    · have hr := ite_n hr c_2
      refine lv_aload_n hx hb dX7_feed_27 rfl (lv_at hl 0 rfl) ?_
      refine va_get (D := (dC, dI)) (ci := 6) (v := .ref a_o_text) (C := RX7) (T := TX7) (N := 15) hx hb hts iX7 hown hK hP 0 rfl rfl 6 (by decide) (hts (.fieldLink RX7 24 "PascalRowsModel" "text" "[I") (List.mem_of_getElem? (i := 3) rfl)) (fun _ h9 => h9) rfl dX7_feed_28 ?_
      refine lv_aload_n hx hb dX7_feed_31 rfl (lv_at hl 0 rfl) ?_
      refine va_get (D := (dC, dI)) (ci := 6) (v := .int o_fed) (C := RX7) (T := TX7) (N := 15) hx hb hts iX7 hown hK hP 0 rfl rfl 7 (by decide) (hts (.fieldLink RX7 99 "PascalRowsModel" "fed" "I") (List.mem_of_getElem? (i := 2) rfl)) (fun _ h9 => h9) rfl dX7_feed_32 ?_
      refine lv_iload_n hx hb dX7_feed_35 rfl (lv_at hl 1 rfl) ?_
      obtain ⟨w_3, ew_3, hw_3, hr⟩ := wr_e hr
      refine va_iast hx hb hK hP (hD.fst rfl) hS 1 0 rfl rfl hw_3 dX7_feed_36 (fun H locs hP _ hS => ?_)
      rw [← ew_3] at hP
      have hP : va_P (dC, dI) vwCl [(a_o, .inr (6, [.ref a_o_g, .ref a_o_kept, .ref a_o_was, .int o_isKept, .ref a_o_triangle, .int o_takenBy, .ref a_o_text, .int o_fed, .int o_place, .int o_letter, .int o_first, .int o_second, .ref a_o_sort, .ref a_o_size, .ref a_o_items])), (a_o_text, .inl (cI, 100, .inl w_3))] H := hP
      refine lv_aload_n hx hb dX7_feed_37 rfl (lv_at hl 0 rfl) ?_
      refine lv_dup hx hb dX7_feed_38 rfl ?_
      refine va_get (D := (dC, dI)) (ci := 6) (v := .int o_fed) (C := RX7) (T := TX7) (N := 15) hx hb hts iX7 hown hK hP 0 rfl rfl 7 (by decide) (hts (.fieldLink RX7 99 "PascalRowsModel" "fed" "I") (List.mem_of_getElem? (i := 2) rfl)) (fun _ h9 => h9) rfl dX7_feed_39 ?_
      refine lv_iconst (v := (1 : Int32)) hx hb dX7_feed_42 (by decide) ?_
      refine lv_iadd hx hb dX7_feed_43 ?_
      refine va_put (D := (dC, dI)) (ci := 6) (v := .int (o_fed + (1 : Int32))) (ty := .int) (C := RX7) (T := TX7) (N := 15) hx hb hts iX7 tyX7 tyX7_ok nmX7 hown hK hP (hD.fst rfl) hS 0 rfl rfl 7 (by decide) (hts (.fieldLink RX7 99 "PascalRowsModel" "fed" "I") (List.mem_of_getElem? (i := 2) rfl)) (fun _ h9 => h9) rfl (by decide +kernel) rfl rfl (Nat.le_of_ble_eq_true rfl) dX7_feed_44 (fun H locs hP _ hS => ?_)
      have hP : va_P (dC, dI) vwCl [(a_o, .inr (6, [.ref a_o_g, .ref a_o_kept, .ref a_o_was, .int o_isKept, .ref a_o_triangle, .int o_takenBy, .ref a_o_text, .int (o_fed + (1 : Int32)), .int o_place, .int o_letter, .int o_first, .int o_second, .ref a_o_sort, .ref a_o_size, .ref a_o_items])), (a_o_text, .inl (cI, 100, .inl w_3))] H := hP
      refine lv_aload_n hx hb dX7_feed_47 rfl (lv_at hl 0 rfl) ?_
      refine va_get (D := (dC, dI)) (ci := 6) (v := .int (o_fed + (1 : Int32))) (C := RX7) (T := TX7) (N := 15) hx hb hts iX7 hown hK hP 0 rfl rfl 7 (by decide) (hts (.fieldLink RX7 99 "PascalRowsModel" "fed" "I") (List.mem_of_getElem? (i := 2) rfl)) (fun _ h9 => h9) rfl dX7_feed_48 ?_
      obtain rfl := Option.some.inj hr
      exact hret H locs _ hP hS (fun Qc free hq hf => W.iret hx hb hrt hq hf dX7_feed_51 hlocks)
    · have hr := ite_p hr c_2
      refine lv_bipush (v := (-4 : Int32)) hx hb dX7_feed_24 (by decide) ?_
      obtain rfl := Option.some.inj hr
      exact hret H locs _ hP hS (fun Qc free hq hf => W.iret hx hb hrt hq hf dX7_feed_26 hlocks)
  · have hr := ite_p hr c_1
    refine lv_bipush (v := (-2 : Int32)) hx hb dX7_feed_12 (by decide) ?_
    obtain rfl := Option.some.inj hr
    exact hret H locs _ hP hS (fun Qc free hq hf => W.iret hx hb hrt hq hf dX7_feed_14 hlocks)
/-! X7_here -/
def rmX7_here : Room := { frames := 0, cells := 0, slots := 0, locals := 0 }
set_option maxHeartbeats 4000000 in
set_option maxRecDepth 100000 in
theorem k_X7_here (l : Launch) (dC : Nat → ClassId) (dI : Nat → Nat → Nat) (cI cJ : ClassId) (a_o : Nat) (a_o_g : Nat) (a_o_kept : Nat) (a_o_was : Nat) (a_o_triangle : Nat) (a_o_text : Nat) (a_o_sort : Nat) (a_o_size : Nat) (a_o_items : Nat) (o_isKept : Int32) (o_takenBy : Int32) (o_fed : Int32) (o_place : Int32) (o_letter : Int32) (o_first : Int32) (o_second : Int32) (o_text : Nat → Int32) (r : Int32) (hr : f_X7_here o_text o_fed o_place = some r) : Met l yX7_here wsX7_here rmX7_here (va_Pc [.ref a_o] (pE (dC, dI) cI cJ [(a_o, .inr (6, [.ref a_o_g, .ref a_o_kept, .ref a_o_was, .int o_isKept, .ref a_o_triangle, .int o_takenBy, .ref a_o_text, .int o_fed, .int o_place, .int o_letter, .int o_first, .int o_second, .ref a_o_sort, .ref a_o_size, .ref a_o_items])), (a_o_text, .inl (cI, 100, .inl o_text))])) (rq (.int r)) 0 0 nofree := by
  refine ro_of_i (cc := cX7_here) (maxL := 1) (by decide) rfl (Nat.le_of_ble_eq_true rfl) ?_
  intro p e s m args below meth c Q ls hx hb hml hown hts hE hP hret hl
  have hK := hE.1
  have hl : lv_has ls 1 [(0, .ref a_o)] := hl
  unfold f_X7_here at hr
  have iX7 : ∀ w ∈ wsX70, w ∈ wsX7_here := memr_ (big := wsX7_here) wsX70 [4, 5, 6, 7, 8, 9, 10, 11, 12, 13, 14, 15, 16, 17, 18] (by decide +kernel)
  refine lv_aload_n hx hb dX7_here_0 rfl (lv_at hl 0 rfl) ?_
  refine va_get (D := (dC, dI)) (ci := 6) (v := .int o_place) (C := RX7) (T := TX7) (N := 15) hx hb hts iX7 hown hK hP 0 rfl rfl 8 (by decide) (hts (.fieldLink RX7 102 "PascalRowsModel" "place" "I") (List.mem_of_getElem? (i := 1) rfl)) (fun _ h9 => h9) rfl dX7_here_1 ?_
  refine lv_aload_n hx hb dX7_here_4 rfl (lv_at hl 0 rfl) ?_
  refine va_get (D := (dC, dI)) (ci := 6) (v := .int o_fed) (C := RX7) (T := TX7) (N := 15) hx hb hts iX7 hown hK hP 0 rfl rfl 7 (by decide) (hts (.fieldLink RX7 99 "PascalRowsModel" "fed" "I") (List.mem_of_getElem? (i := 2) rfl)) (fun _ h9 => h9) rfl dX7_here_5 ?_
  refine lv_icmp_ge (tgt := 23) hx hb dX7_here_8 (by decide) (fun c_1 => ?_) (fun c_1 => ?_)
  · have hr := ite_p hr c_1
    refine lv_iconst (v := (-1 : Int32)) hx hb dX7_here_23 (by decide) ?_
    exact hret 24 ls _ dX7_here_24 (Option.some.inj hr)
  · have hr := ite_n hr c_1
    refine lv_aload_n hx hb dX7_here_11 rfl (lv_at hl 0 rfl) ?_
    refine va_get (D := (dC, dI)) (ci := 6) (v := .ref a_o_text) (C := RX7) (T := TX7) (N := 15) hx hb hts iX7 hown hK hP 0 rfl rfl 6 (by decide) (hts (.fieldLink RX7 24 "PascalRowsModel" "text" "[I") (List.mem_of_getElem? (i := 3) rfl)) (fun _ h9 => h9) rfl dX7_here_12 ?_
    refine lv_aload_n hx hb dX7_here_15 rfl (lv_at hl 0 rfl) ?_
    refine va_get (D := (dC, dI)) (ci := 6) (v := .int o_place) (C := RX7) (T := TX7) (N := 15) hx hb hts iX7 hown hK hP 0 rfl rfl 8 (by decide) (hts (.fieldLink RX7 102 "PascalRowsModel" "place" "I") (List.mem_of_getElem? (i := 1) rfl)) (fun _ h9 => h9) rfl dX7_here_16 ?_
    obtain ⟨g_2, eg_2, hg_2, hr⟩ := rd_e hr
    refine va_iald hx hb hK hP 1 0 rfl rfl hg_2 dX7_here_19 ?_
    refine tp_ eg_2 ?_
    refine lv_goto (tgt := 24) hx hb dX7_here_20 (by decide) ?_
    exact hret 24 ls _ dX7_here_24 (Option.some.inj hr)
/-! X7_readsNumber -/
def rmX7_readsNumber : Room := { frames := 1, cells := 0, slots := 0, locals := 25 }
set_option maxHeartbeats 4000000 in
set_option maxRecDepth 100000 in
theorem k_X7_readsNumber (l : Launch) (dC : Nat → ClassId) (dI : Nat → Nat → Nat) (cI cJ : ClassId) (a_o : Nat) (a_o_g : Nat) (a_o_kept : Nat) (a_o_was : Nat) (a_o_triangle : Nat) (a_o_text : Nat) (a_o_sort : Nat) (a_o_size : Nat) (a_o_items : Nat) (p0 : Int32) (o_isKept : Int32) (o_takenBy : Int32) (o_fed : Int32) (o_place : Int32) (o_letter : Int32) (o_first : Int32) (o_second : Int32) (o_text : Nat → Int32) (sz : Nat) (r : Int32 × Int32) (hr : f_X7_readsNumber p0 o_text o_fed o_place = some r) : Met l yX7_readsNumber wsX7_readsNumber rmX7_readsNumber (va_Pc [.ref a_o, .int p0] (pM (dC, dI) cI cJ [(a_o, .inr (6, [.ref a_o_g, .ref a_o_kept, .ref a_o_was, .int o_isKept, .ref a_o_triangle, .int o_takenBy, .ref a_o_text, .int o_fed, .int o_place, .int o_letter, .int o_first, .int o_second, .ref a_o_sort, .ref a_o_size, .ref a_o_items])), (a_o_text, .inl (cI, 100, .inl o_text))] sz)) (qM (some (.int r.1)) (dC, dI) [(a_o, .inr (6, [.ref a_o_g, .ref a_o_kept, .ref a_o_was, .int o_isKept, .ref a_o_triangle, .int o_takenBy, .ref a_o_text, .int o_fed, .int r.2, .int o_letter, .int o_first, .int o_second, .ref a_o_sort, .ref a_o_size, .ref a_o_items])), (a_o_text, .inl (cI, 100, .inl o_text))] (va_A [(a_o, .inr (6, [.ref a_o_g, .ref a_o_kept, .ref a_o_was, .int o_isKept, .ref a_o_triangle, .int o_takenBy, .ref a_o_text, .int o_fed, .int o_place, .int o_letter, .int o_first, .int o_second, .ref a_o_sort, .ref a_o_size, .ref a_o_items])), (a_o_text, .inl (cI, 100, .inl o_text))] sz)) 0 0 (va_A [(a_o, .inr (6, [.ref a_o_g, .ref a_o_kept, .ref a_o_was, .int o_isKept, .ref a_o_triangle, .int o_takenBy, .ref a_o_text, .int o_fed, .int o_place, .int o_letter, .int o_first, .int o_second, .ref a_o_sort, .ref a_o_size, .ref a_o_items])), (a_o_text, .inl (cI, 100, .inl o_text))] sz) := by
  refine mu_of (cc := cX7_readsNumber) (maxL := 4) (by decide) rfl (Nat.le_of_ble_eq_true rfl) ?_
  intro p e s m args below meth c Q ls A hx hb hml hown hts hE hP hD hA hrt hlocks hret hl
  have hK := hE.1
  have hS : va_S A s.heap s.heap [] := va_S.rf
  have hl : lv_has ls 4 [(0, .ref a_o), (1, .int p0)] := hl
  unfold f_X7_readsNumber at hr
  obtain ⟨H, hHe⟩ : ∃ H, H = s.heap := ⟨_, rfl⟩
  obtain ⟨locs, hLe⟩ : ∃ locs : List Loc, locs = [] := ⟨_, rfl⟩
  suffices hgo : va_P (dC, dI) vwCl [(a_o, .inr (6, [.ref a_o_g, .ref a_o_kept, .ref a_o_was, .int o_isKept, .ref a_o_triangle, .int o_takenBy, .ref a_o_text, .int o_fed, .int o_place, .int o_letter, .int o_first, .int o_second, .ref a_o_sort, .ref a_o_size, .ref a_o_items])), (a_o_text, .inl (cI, 100, .inl o_text))] H → va_S A s.heap H locs → W p l e rmX7_readsNumber s m args below meth c H locs 0 0 Q (F0 m 0 ls []) by
    subst hHe; subst hLe; exact hgo hP hS
  clear hP hS hHe hLe
  intro hP hS
  have iX7 : ∀ w ∈ wsX70, w ∈ wsX7_readsNumber := memr_ (big := wsX7_readsNumber) wsX70 [14, 15, 16, 17, 18, 19, 20, 21, 22, 23, 24, 25, 26, 27, 28] (by decide +kernel)
  refine lv_iconst (v := (-1 : Int32)) hx hb dX7_readsNumber_0 (by decide) ?_
  refine lv_istore_n (lv' := [(2, .int (-1 : Int32)), (0, .ref a_o), (1, .int p0)]) hx hb dX7_readsNumber_1 rfl hl (by decide) rfl (fun ls hl => ?_)
  refine lv_iconst (v := (0 : Int32)) hx hb dX7_readsNumber_2 (by decide) ?_
  refine lv_istore_n (lv' := [(3, .int (0 : Int32)), (2, .int (-1 : Int32)), (0, .ref a_o), (1, .int p0)]) hx hb dX7_readsNumber_3 rfl hl (by decide) rfl (fun ls hl => ?_)
  have hL4 : ∀ (v1_4 : Int32) (k_4 : Int32 → (Int32) → Option (Int32 × Int32)) (hk : ∀ (x2_4 : Int32) (xc_o_place_4 : Int32) (ls : Array Slot), lv_has ls 4 [(2, .int x2_4)] → ∀ (H : Heap) (locs : List Loc), va_P (dC, dI) vwCl [(a_o, .inr (6, [.ref a_o_g, .ref a_o_kept, .ref a_o_was, .int o_isKept, .ref a_o_triangle, .int o_takenBy, .ref a_o_text, .int o_fed, .int xc_o_place_4, .int o_letter, .int o_first, .int o_second, .ref a_o_sort, .ref a_o_size, .ref a_o_items])), (a_o_text, .inl (cI, 100, .inl o_text))] H → va_S A s.heap H locs →  k_4 x2_4 xc_o_place_4 = some r → W p l e rmX7_readsNumber s m args below meth c H locs 0 0 Q (F0 m 63 ls [])) (fuel : Nat) (v2_4 : Int32) (v3_4 : Int32) (o_place_4 : Int32) (ls : Array Slot), lv_has ls 4 [(0, .ref a_o), (1, .int v1_4), (2, .int v2_4), (3, .int v3_4)] → ∀ (H : Heap) (locs : List Loc), va_P (dC, dI) vwCl [(a_o, .inr (6, [.ref a_o_g, .ref a_o_kept, .ref a_o_was, .int o_isKept, .ref a_o_triangle, .int o_takenBy, .ref a_o_text, .int o_fed, .int o_place_4, .int o_letter, .int o_first, .int o_second, .ref a_o_sort, .ref a_o_size, .ref a_o_items])), (a_o_text, .inl (cI, 100, .inl o_text))] H → va_S A s.heap H locs → f_X7_readsNumber_L4 k_4 v1_4 o_text o_fed fuel v2_4 v3_4 o_place_4 = some r → W p l e rmX7_readsNumber s m args below meth c H locs 0 0 Q (F0 m 4 ls []) := by
    intro v1_4 k_4 hk fuel
    induction fuel with
    | zero =>
      intro v2_4 v3_4 o_place_4 ls hl H locs hP hS hr
      rw [f_X7_readsNumber_L4_z] at hr
      cases hr
    | succ fuel ih =>
      intro v2_4 v3_4 o_place_4 ls hl H locs hP hS hr
      rw [f_X7_readsNumber_L4_s] at hr
      refine lv_iload_n hx hb dX7_readsNumber_4 rfl (lv_at hl 3 rfl) ?_
      refine lv_iload_n hx hb dX7_readsNumber_5 rfl (lv_at hl 1 rfl) ?_
      refine lv_icmp_ge (tgt := 63) hx hb dX7_readsNumber_6 (by decide) (fun c_1 => ?_) (fun c_1 => ?_)
      · have hr := ite_p hr c_1
        exact hk v2_4 o_place_4 ls (lv_sub hl [2] rfl) H locs hP hS hr
      · have hr := ite_n hr c_1
        refine lv_aload_n hx hb dX7_readsNumber_9 rfl (lv_at hl 0 rfl) ?_
        obtain ⟨u_2, hu_2, hr⟩ := bd_e hr
        refine ro_V ⟨hx, hb, hml, hown, hts⟩ (k_X7_here l dC dI cI cJ a_o a_o_g a_o_kept a_o_was a_o_triangle a_o_text a_o_sort a_o_size a_o_items o_isKept o_takenBy o_fed o_place_4 o_letter o_first o_second o_text u_2 hu_2) (cwV 0 hts gX7_readsNumber_X7_here rfl rfl rfl (by decide +kernel) ⟨Nat.le_of_ble_eq_true rfl, Nat.le_of_ble_eq_true rfl⟩) hE hP 0 rfl rfl rfl (hP.sub [0, 1] rfl) rfl hl.1 rfl (Nat.le_of_ble_eq_true rfl) dX7_readsNumber_10 ⟨Nat.zero_le _, Nat.zero_le _⟩ ?_
        refine lv_i2l (v := (Int32.toInt64 u_2)) hx hb dX7_readsNumber_13 rfl ?_
        refine lv_ldc2 (v := (48 : Int64)) hx hb hown (hts (.constantLong RX7 108 (48)) (List.mem_of_getElem? (i := 1) rfl)) dX7_readsNumber_14 ?_
        refine lv_ldc2 (v := (57 : Int64)) hx hb hown (hts (.constantLong RX7 110 (57)) (List.mem_of_getElem? (i := 2) rfl)) dX7_readsNumber_17 ?_
        refine ro_S ⟨hx, hb, hml, hown, hts⟩ (k_X7_isIn l dC dI cI cJ (Int32.toInt64 u_2) (48 : Int64) (57 : Int64)) (va_cwS 3 hts gX7_readsNumber_X7_isIn rfl rfl rfl (by decide +kernel) ⟨Nat.le_of_ble_eq_true rfl, Nat.le_of_ble_eq_true rfl⟩) hE (hP.sub [] rfl) rfl hl.1 rfl (Nat.le_of_ble_eq_true rfl) dX7_readsNumber_20 ⟨Nat.zero_le _, Nat.zero_le _⟩ ?_
        refine lv_if_eq (tgt := 63) hx hb dX7_readsNumber_23 (by decide) (fun c_3 => ?_) (fun c_3 => ?_)
        · have hr := ite_p hr c_3
          exact hk v2_4 o_place_4 ls (lv_sub hl [2] rfl) H locs hP hS hr
        · have hr := ite_n hr c_3
          refine lv_iload_n hx hb dX7_readsNumber_26 rfl (lv_at hl 3 rfl) ?_
          have hJ_4 : ∀ (y_5 : Int32) (ey_5 : y_5 = (if (¬ (v3_4 = 0)) then ((10 : Int32) * v2_4) else (0 : Int32))) (ls : Array Slot), lv_has ls 4 [(0, .ref a_o), (1, .int v1_4), (3, .int v3_4)] → W p l e rmX7_readsNumber s m args below meth c H locs 0 0 Q (F0 m 38 ls [.int y_5]) := by
            intro y_5 ey_5 ls hl
            subst ey_5
            refine lv_aload_n hx hb dX7_readsNumber_38 rfl (lv_at hl 0 rfl) ?_
            obtain ⟨u_6, hu_6, hr⟩ := bd_e hr
            refine ro_V ⟨hx, hb, hml, hown, hts⟩ (k_X7_here l dC dI cI cJ a_o a_o_g a_o_kept a_o_was a_o_triangle a_o_text a_o_sort a_o_size a_o_items o_isKept o_takenBy o_fed o_place_4 o_letter o_first o_second o_text u_6 hu_6) (cwV 0 hts gX7_readsNumber_X7_here rfl rfl rfl (by decide +kernel) ⟨Nat.le_of_ble_eq_true rfl, Nat.le_of_ble_eq_true rfl⟩) hE hP 0 rfl rfl rfl (hP.sub [0, 1] rfl) rfl hl.1 rfl (Nat.le_of_ble_eq_true rfl) dX7_readsNumber_39 ⟨Nat.zero_le _, Nat.zero_le _⟩ ?_
            refine lv_iadd hx hb dX7_readsNumber_42 ?_
            refine lv_bipush (v := (48 : Int32)) hx hb dX7_readsNumber_43 (by decide) ?_
            refine lv_isub hx hb dX7_readsNumber_45 ?_
            refine lv_topi (fun x_7 ex_7 => ?_)
            have hr := qn_e hr ex_7
            refine lv_istore_n (lv' := [(2, .int x_7), (0, .ref a_o), (1, .int v1_4), (3, .int v3_4)]) hx hb dX7_readsNumber_46 rfl hl (by decide) rfl (fun ls hl => ?_)
            refine lv_aload_n hx hb dX7_readsNumber_47 rfl (lv_at hl 1 rfl) ?_
            refine lv_dup hx hb dX7_readsNumber_48 rfl ?_
            refine va_get (D := (dC, dI)) (ci := 6) (v := .int o_place_4) (C := RX7) (T := TX7) (N := 15) hx hb hts iX7 hown hK hP 0 rfl rfl 8 (by decide) (hts (.fieldLink RX7 102 "PascalRowsModel" "place" "I") (List.mem_of_getElem? (i := 3) rfl)) (fun _ h9 => h9) rfl dX7_readsNumber_49 ?_
            refine lv_iconst (v := (1 : Int32)) hx hb dX7_readsNumber_52 (by decide) ?_
            refine lv_iadd hx hb dX7_readsNumber_53 ?_
            refine va_put (D := (dC, dI)) (ci := 6) (v := .int (o_place_4 + (1 : Int32))) (ty := .int) (C := RX7) (T := TX7) (N := 15) hx hb hts iX7 tyX7 tyX7_ok nmX7 hown hK hP (hD.fst rfl) hS 0 rfl rfl 8 (by decide) (hts (.fieldLink RX7 102 "PascalRowsModel" "place" "I") (List.mem_of_getElem? (i := 3) rfl)) (fun _ h9 => h9) rfl (by decide +kernel) rfl rfl (Nat.le_of_ble_eq_true rfl) dX7_readsNumber_54 (fun H locs hP _ hS => ?_)
            have hP : va_P (dC, dI) vwCl [(a_o, .inr (6, [.ref a_o_g, .ref a_o_kept, .ref a_o_was, .int o_isKept, .ref a_o_triangle, .int o_takenBy, .ref a_o_text, .int o_fed, .int (o_place_4 + (1 : Int32)), .int o_letter, .int o_first, .int o_second, .ref a_o_sort, .ref a_o_size, .ref a_o_items])), (a_o_text, .inl (cI, 100, .inl o_text))] H := hP
            refine lv_iinc (v := (v3_4 + (1 : Int32))) (lv' := [(3, .int (v3_4 + (1 : Int32))), (2, .int x_7), (0, .ref a_o), (1, .int v1_4)]) hx hb dX7_readsNumber_57 hl (k := 3) rfl (congrArg (fun z => v3_4 + z) (by decide)) (by decide) rfl (fun ls hl => ?_)
            refine lv_goto (tgt := 4) hx hb dX7_readsNumber_60 (by decide) ?_
            exact ih x_7 (v3_4 + (1 : Int32)) (o_place_4 + (1 : Int32)) ls (lv_sub hl [2, 3, 1, 0] rfl) H locs hP hS hr
          refine lv_if_ne (tgt := 34) hx hb dX7_readsNumber_27 (by decide) (fun c_8 => ?_) (fun c_8 => ?_)
          · refine lv_bipush (v := (10 : Int32)) hx hb dX7_readsNumber_34 (by decide) ?_
            refine lv_iload_n hx hb dX7_readsNumber_36 rfl (lv_at hl 2 rfl) ?_
            refine lv_imul hx hb dX7_readsNumber_37 ?_
            exact hJ_4 _ (if_pos c_8).symm ls (lv_sub hl [0, 1, 3] rfl)
          · refine lv_iconst (v := (0 : Int32)) hx hb dX7_readsNumber_30 (by decide) ?_
            refine lv_goto (tgt := 38) hx hb dX7_readsNumber_31 (by decide) ?_
            exact hJ_4 _ (if_neg (fun h => h c_8)).symm ls (lv_sub hl [0, 1, 3] rfl)
  refine hL4 p0 _ (fun x2_4 xc_o_place_4 ls hl H locs hP hS hr => ?_) 5000 (-1 : Int32) (0 : Int32) o_place ls (lv_sub hl [2, 3, 1, 0] rfl) H locs hP hS hr
  refine lv_iload_n hx hb dX7_readsNumber_63 rfl (lv_at hl 0 rfl) ?_
  obtain rfl := Option.some.inj hr
  exact hret H locs _ hP hS (fun Qc free hq hf => W.iret hx hb hrt hq hf dX7_readsNumber_64 hlocks)
