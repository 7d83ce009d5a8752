/-! X7_after -/
def rmX7_after : Room := { frames := 6, cells := 0, slots := 0, locals := 135 }
set_option maxHeartbeats 4000000 in
set_option maxRecDepth 100000 in
theorem k_X7_after (l : Launch) (dC : Nat → ClassId) (dI : Nat → Nat → Nat) (cI cJ : ClassId) (a_o : Nat) (a_o_g : Nat) (a_o_kept : Nat) (a_o_was : Nat) (a_o_triangle : Nat) (a_o_text : Nat) (a_o_sort : Nat) (a_o_size : Nat) (a_o_items : Nat) (p0 : Int32) (o_isKept : Int32) (o_takenBy : Int32) (o_fed : Int32) (o_place : Int32) (o_letter : Int32) (o_first : Int32) (o_second : Int32) (o_g : Nat → Int32) (o_was : Nat → Int32) (o_triangle : Nat → Int32) (sz : Nat) (r : Int32 × (Nat → Int32) × (Nat → Int32) × (Nat → Int32) × Int32) (hr : f_X7_after p0 o_g o_was o_triangle o_takenBy = some r) : Met l yX7_after wsX7_after rmX7_after (va_Pc [.ref a_o, .int p0] (pM (dC, dI) cI cJ [(a_o, .inr (6, [.ref a_o_g, .ref a_o_kept, .ref a_o_was, .int o_isKept, .ref a_o_triangle, .int o_takenBy, .ref a_o_text, .int o_fed, .int o_place, .int o_letter, .int o_first, .int o_second, .ref a_o_sort, .ref a_o_size, .ref a_o_items])), (a_o_g, .inl (cI, 64, .inl o_g)), (a_o_was, .inl (cI, 64, .inl o_was)), (a_o_triangle, .inl (cI, 16384, .inl o_triangle))] sz)) (qM (some (.int r.1)) (dC, dI) [(a_o, .inr (6, [.ref a_o_g, .ref a_o_kept, .ref a_o_was, .int o_isKept, .ref a_o_triangle, .int r.2.2.2.2, .ref a_o_text, .int o_fed, .int o_place, .int o_letter, .int o_first, .int o_second, .ref a_o_sort, .ref a_o_size, .ref a_o_items])), (a_o_g, .inl (cI, 64, .inl r.2.1)), (a_o_was, .inl (cI, 64, .inl r.2.2.1)), (a_o_triangle, .inl (cI, 16384, .inl r.2.2.2.1))] (va_A [(a_o, .inr (6, [.ref a_o_g, .ref a_o_kept, .ref a_o_was, .int o_isKept, .ref a_o_triangle, .int o_takenBy, .ref a_o_text, .int o_fed, .int o_place, .int o_letter, .int o_first, .int o_second, .ref a_o_sort, .ref a_o_size, .ref a_o_items])), (a_o_g, .inl (cI, 64, .inl o_g)), (a_o_was, .inl (cI, 64, .inl o_was)), (a_o_triangle, .inl (cI, 16384, .inl o_triangle))] sz)) 0 0 (va_A [(a_o, .inr (6, [.ref a_o_g, .ref a_o_kept, .ref a_o_was, .int o_isKept, .ref a_o_triangle, .int o_takenBy, .ref a_o_text, .int o_fed, .int o_place, .int o_letter, .int o_first, .int o_second, .ref a_o_sort, .ref a_o_size, .ref a_o_items])), (a_o_g, .inl (cI, 64, .inl o_g)), (a_o_was, .inl (cI, 64, .inl o_was)), (a_o_triangle, .inl (cI, 16384, .inl o_triangle))] sz) := by
  refine mu_of (cc := cX7_after) (maxL := 3) (by decide) rfl (Nat.le_of_ble_eq_true rfl) ?_
  intro p e s m args below meth c Q ls A hx hb hml hown hts hE hP hD hA hrt hlocks hret hl
  have hK := hE.1
  have hS : va_S A s.heap s.heap [] := va_S.rf
  have hl : lv_has ls 3 [(0, .ref a_o), (1, .int p0)] := hl
  unfold f_X7_after at hr
  obtain ⟨H, hHe⟩ : ∃ H, H = s.heap := ⟨_, rfl⟩
  obtain ⟨locs, hLe⟩ : ∃ locs : List Loc, locs = [] := ⟨_, rfl⟩
  suffices hgo : va_P (dC, dI) vwCl [(a_o, .inr (6, [.ref a_o_g, .ref a_o_kept, .ref a_o_was, .int o_isKept, .ref a_o_triangle, .int o_takenBy, .ref a_o_text, .int o_fed, .int o_place, .int o_letter, .int o_first, .int o_second, .ref a_o_sort, .ref a_o_size, .ref a_o_items])), (a_o_g, .inl (cI, 64, .inl o_g)), (a_o_was, .inl (cI, 64, .inl o_was)), (a_o_triangle, .inl (cI, 16384, .inl o_triangle))] H → va_S A s.heap H locs → W p l e rmX7_after s m args below meth c H locs 0 0 Q (F0 m 0 ls []) by
    subst hHe; subst hLe; exact hgo hP hS
  clear hP hS hHe hLe
  intro hP hS
  have iX7 : ∀ w ∈ wsX70, w ∈ wsX7_after := memr_ (big := wsX7_after) wsX70 [74, 75, 76, 77, 78, 79, 80, 81, 82, 83, 84, 85, 86, 87, 88] (by decide +kernel)
  refine lv_iload_n hx hb dX7_after_0 rfl (lv_at hl 1 rfl) ?_
  refine lv_i2l (v := (Int32.toInt64 p0)) hx hb dX7_after_1 rfl ?_
  refine lv_lconst (v := (0 : Int64)) hx hb dX7_after_2 (by decide) ?_
  refine lv_ldc2 (v := (2 : Int64)) hx hb hown (hts (.constantLong RX7 170 (2)) (List.mem_of_getElem? (i := 1) rfl)) dX7_after_3 ?_
  refine ro_S ⟨hx, hb, hml, hown, hts⟩ (k_X7_isIn l dC dI cI cJ (Int32.toInt64 p0) (0 : Int64) (2 : Int64)) (va_cwS 3 hts gX7_after_X7_isIn rfl rfl rfl (by decide +kernel) ⟨Nat.le_of_ble_eq_true rfl, Nat.le_of_ble_eq_true rfl⟩) hE (hP.sub [] rfl) rfl hl.1 rfl (Nat.le_of_ble_eq_true rfl) dX7_after_6 ⟨Nat.zero_le _, Nat.zero_le _⟩ ?_
  refine lv_if_ne (tgt := 14) hx hb dX7_after_9 (by decide) (fun c_1 => ?_) (fun c_1 => ?_)
  · have hr := ite_n hr c_1
    refine lv_aload_n hx hb dX7_after_14 rfl (lv_at hl 0 rfl) ?_
    refine va_get (D := (dC, dI)) (ci := 6) (v := .ref a_o_g) (C := RX7) (T := TX7) (N := 15) hx hb hts iX7 hown hK hP 0 rfl rfl 0 (by decide) (hts (.fieldLink RX7 11 "PascalRowsModel" "g" "[I") (List.mem_of_getElem? (i := 2) rfl)) (fun _ h9 => h9) rfl dX7_after_15 ?_
    refine lv_aload_n hx hb dX7_after_18 rfl (lv_at hl 0 rfl) ?_
    refine va_get (D := (dC, dI)) (ci := 6) (v := .ref a_o_was) (C := RX7) (T := TX7) (N := 15) hx hb hts iX7 hown hK hP 0 rfl rfl 2 (by decide) (hts (.fieldLink RX7 18 "PascalRowsModel" "was" "[I") (List.mem_of_getElem? (i := 3) rfl)) (fun _ h9 => h9) rfl dX7_after_19 ?_
    obtain ⟨u_2, hu_2, hr⟩ := bd_e hr
    refine mu_S ⟨hx, hb, hml, hown, hts⟩ (k_X7_copies l dC dI cI cJ a_o_g a_o_was 64 64 o_g o_was H.size u_2 hu_2) (va_cwS 2 hts gX7_after_X7_copies rfl rfl rfl (by decide +kernel) ⟨Nat.le_of_ble_eq_true rfl, Nat.le_of_ble_eq_true rfl⟩) hE rfl hl.1 rfl (Nat.le_of_ble_eq_true rfl) dX7_after_22 ⟨Nat.zero_le _, Nat.zero_le _⟩ hP (hD.fst rfl) hS hA [1, 2] [0, 3] [0, 2, 3, 1] rfl rfl (by decide) (by decide) rfl (by decide) (W1 := [(a_o, .inr (6, [.ref a_o_g, .ref a_o_kept, .ref a_o_was, .int o_isKept, .ref a_o_triangle, .int o_takenBy, .ref a_o_text, .int o_fed, .int o_place, .int o_letter, .int o_first, .int o_second, .ref a_o_sort, .ref a_o_size, .ref a_o_items])), (a_o_g, .inl (cI, 64, .inl o_g)), (a_o_was, .inl (cI, 64, .inl u_2)), (a_o_triangle, .inl (cI, 16384, .inl o_triangle))]) rfl (fun H locs hP hS => W.eq (g2 := F0 m 25 ls []) rfl ?_)
    refine lv_iconst (v := (0 : Int32)) hx hb dX7_after_25 (by decide) ?_
    refine lv_istore_n (lv' := [(2, .int (0 : Int32)), (0, .ref a_o), (1, .int p0)]) hx hb dX7_after_26 rfl hl (by decide) rfl (fun ls hl => ?_)
    have hL27 : ∀ (v1_27 : Int32) (o_was_27 : Nat → Int32) (o_triangle_27 : Nat → Int32) (o_takenBy_27 : Int32) (k_27 : (Nat → Int32) → Option (Int32 × (Nat → Int32) × (Nat → Int32) × (Nat → Int32) × Int32)) (hk : ∀ (xc_o_g_27 : Nat → Int32) (ls : Array Slot), lv_has ls 3 [(0, .ref a_o), (1, .int v1_27)] → ∀ (H : Heap) (locs : List Loc), va_P (dC, dI) vwCl [(a_o, .inr (6, [.ref a_o_g, .ref a_o_kept, .ref a_o_was, .int o_isKept, .ref a_o_triangle, .int o_takenBy_27, .ref a_o_text, .int o_fed, .int o_place, .int o_letter, .int o_first, .int o_second, .ref a_o_sort, .ref a_o_size, .ref a_o_items])), (a_o_g, .inl (cI, 64, .inl xc_o_g_27)), (a_o_was, .inl (cI, 64, .inl o_was_27)), (a_o_triangle, .inl (cI, 16384, .inl o_triangle_27))] H → va_S A s.heap H locs →  k_27 xc_o_g_27 = some r → W p l e rmX7_after s m args below meth c H locs 0 0 Q (F0 m 70 ls [])) (fuel : Nat) (v2_27 : Int32) (o_g_27 : Nat → Int32) (ls : Array Slot), lv_has ls 3 [(0, .ref a_o), (1, .int v1_27), (2, .int v2_27)] → ∀ (H : Heap) (locs : List Loc), va_P (dC, dI) vwCl [(a_o, .inr (6, [.ref a_o_g, .ref a_o_kept, .ref a_o_was, .int o_isKept, .ref a_o_triangle, .int o_takenBy_27, .ref a_o_text, .int o_fed, .int o_place, .int o_letter, .int o_first, .int o_second, .ref a_o_sort, .ref a_o_size, .ref a_o_items])), (a_o_g, .inl (cI, 64, .inl o_g_27)), (a_o_was, .inl (cI, 64, .inl o_was_27)), (a_o_triangle, .inl (cI, 16384, .inl o_triangle_27))] H → va_S A s.heap H locs → f_X7_after_L27 k_27 o_was_27 fuel v2_27 o_g_27 = some r → W p l e rmX7_after s m args below meth c H locs 0 0 Q (F0 m 27 ls []) := by
      intro v1_27 o_was_27 o_triangle_27 o_takenBy_27 k_27 hk fuel
      induction fuel with
      | zero =>
        intro v2_27 o_g_27 ls hl H locs hP hS hr
        rw [f_X7_after_L27_z] at hr
        cases hr
      | succ fuel ih =>
        intro v2_27 o_g_27 ls hl H locs hP hS hr
        rw [f_X7_after_L27_s] at hr
        refine lv_iload_n hx hb dX7_after_27 rfl (lv_at hl 2 rfl) ?_
        refine lv_aload_n hx hb dX7_after_28 rfl (lv_at hl 0 rfl) ?_
        refine va_get (D := (dC, dI)) (ci := 6) (v := .ref a_o_was) (C := RX7) (T := TX7) (N := 15) hx hb hts iX7 hown hK hP 0 rfl rfl 2 (by decide) (hts (.fieldLink RX7 18 "PascalRowsModel" "was" "[I") (List.mem_of_getElem? (i := 3) rfl)) (fun _ h9 => h9) rfl dX7_after_29 ?_
        refine lv_bipush (v := (30 : Int32)) hx hb dX7_after_32 (by decide) ?_
        obtain ⟨g_3, eg_3, hg_3, hr⟩ := rd_e hr
        refine va_iald hx hb hK hP 2 0 rfl rfl hg_3 dX7_after_34 ?_
        refine tp_ eg_3 ?_
        refine lv_icmp_ge (tgt := 70) hx hb dX7_after_35 (by decide) (fun c_4 => ?_) (fun c_4 => ?_)
        · have hr := ite_p hr c_4
          exact hk o_g_27 ls (lv_sub hl [0, 1] rfl) H locs hP hS hr
        · have hr := ite_n hr c_4
          refine lv_aload_n hx hb dX7_after_38 rfl (lv_at hl 0 rfl) ?_
          refine lv_aload_n hx hb dX7_after_39 rfl (lv_at hl 0 rfl) ?_
          refine va_get (D := (dC, dI)) (ci := 6) (v := .ref a_o_was) (C := RX7) (T := TX7) (N := 15) hx hb hts iX7 hown hK hP 0 rfl rfl 2 (by decide) (hts (.fieldLink RX7 18 "PascalRowsModel" "was" "[I") (List.mem_of_getElem? (i := 3) rfl)) (fun _ h9 => h9) rfl dX7_after_40 ?_
          refine lv_bipush (v := (31 : Int32)) hx hb dX7_after_43 (by decide) ?_
          refine lv_iconst (v := (2 : Int32)) hx hb dX7_after_45 (by decide) ?_
          refine lv_iload_n hx hb dX7_after_46 rfl (lv_at hl 2 rfl) ?_
          refine lv_imul hx hb dX7_after_47 ?_
          refine lv_iadd hx hb dX7_after_48 ?_
          obtain ⟨g_5, eg_5, hg_5, hr⟩ := rd_e hr
          refine va_iald hx hb hK hP 2 0 rfl rfl hg_5 dX7_after_49 ?_
          refine tp_ eg_5 ?_
          refine lv_aload_n hx hb dX7_after_50 rfl (lv_at hl 0 rfl) ?_
          refine va_get (D := (dC, dI)) (ci := 6) (v := .ref a_o_was) (C := RX7) (T := TX7) (N := 15) hx hb hts iX7 hown hK hP 0 rfl rfl 2 (by decide) (hts (.fieldLink RX7 18 "PascalRowsModel" "was" "[I") (List.mem_of_getElem? (i := 3) rfl)) (fun _ h9 => h9) rfl dX7_after_51 ?_
          refine lv_bipush (v := (32 : Int32)) hx hb dX7_after_54 (by decide) ?_
          refine lv_iconst (v := (2 : Int32)) hx hb dX7_after_56 (by decide) ?_
          refine lv_iload_n hx hb dX7_after_57 rfl (lv_at hl 2 rfl) ?_
          refine lv_imul hx hb dX7_after_58 ?_
          refine lv_iadd hx hb dX7_after_59 ?_
          obtain ⟨g_6, eg_6, hg_6, hr⟩ := rd_e hr
          refine va_iald hx hb hK hP 2 0 rfl rfl hg_6 dX7_after_60 ?_
          refine tp_ eg_6 ?_
          obtain ⟨u_7, hu_7, hr⟩ := bd_e hr
          refine mu_V ⟨hx, hb, hml, hown, hts⟩ (k_X7_happens l dC dI cI cJ a_o a_o_g a_o_kept a_o_was a_o_triangle a_o_text a_o_sort a_o_size a_o_items g_5 g_6 o_isKept o_takenBy_27 o_fed o_place o_letter o_first o_second o_g_27 H.size u_7 hu_7) (cwV 2 hts gX7_after_X7_happens rfl rfl rfl (by decide +kernel) ⟨Nat.le_of_ble_eq_true rfl, Nat.le_of_ble_eq_true rfl⟩) hE 0 rfl rfl rfl rfl hl.1 rfl (Nat.le_of_ble_eq_true rfl) dX7_after_61 ⟨Nat.zero_le _, Nat.zero_le _⟩ hP (hD.fst rfl) hS hA [0, 1] [2, 3] [2, 3, 0, 1] rfl rfl (by decide) (by decide) rfl (by decide) (W1 := [(a_o, .inr (6, [.ref a_o_g, .ref a_o_kept, .ref a_o_was, .int o_isKept, .ref a_o_triangle, .int o_takenBy_27, .ref a_o_text, .int o_fed, .int o_place, .int o_letter, .int o_first, .int o_second, .ref a_o_sort, .ref a_o_size, .ref a_o_items])), (a_o_g, .inl (cI, 64, .inl u_7)), (a_o_was, .inl (cI, 64, .inl o_was_27)), (a_o_triangle, .inl (cI, 16384, .inl o_triangle_27))]) rfl (fun H locs hP hS => W.eq (g2 := F0 m 64 ls []) rfl ?_)
          refine lv_iinc (v := (v2_27 + (1 : Int32))) (lv' := [(2, .int (v2_27 + (1 : Int32))), (0, .ref a_o), (1, .int v1_27)]) hx hb dX7_after_64 hl (k := 2) rfl (congrArg (fun z => v2_27 + z) (by decide)) (by decide) rfl (fun ls hl => ?_)
          refine lv_goto (tgt := 27) hx hb dX7_after_67 (by decide) ?_
          exact ih (v2_27 + (1 : Int32)) u_7 ls (lv_sub hl [1, 2, 0] rfl) H locs hP hS hr
    refine hL27 p0 u_2 o_triangle o_takenBy _ (fun xc_o_g_27 ls hl H locs hP hS hr => ?_) 5000 (0 : Int32) o_g ls (lv_sub hl [1, 2, 0] rfl) H locs hP hS hr
    refine lv_iload_n hx hb dX7_after_70 rfl (lv_at hl 1 rfl) ?_
    refine lv_if_ne (tgt := 81) hx hb dX7_after_71 (by decide) (fun c_8 => ?_) (fun c_8 => ?_)
    · have hr := ite_n hr c_8
      refine lv_iload_n hx hb dX7_after_81 rfl (lv_at hl 1 rfl) ?_
      refine lv_iconst (v := (1 : Int32)) hx hb dX7_after_82 (by decide) ?_
      refine lv_icmp_ne (tgt := 93) hx hb dX7_after_83 (by decide) (fun c_9 => ?_) (fun c_9 => ?_)
      · have hr := ite_n hr c_9
        refine lv_aload_n hx hb dX7_after_93 rfl (lv_at hl 0 rfl) ?_
        refine va_get (D := (dC, dI)) (ci := 6) (v := .ref a_o_g) (C := RX7) (T := TX7) (N := 15) hx hb hts iX7 hown hK hP 0 rfl rfl 0 (by decide) (hts (.fieldLink RX7 11 "PascalRowsModel" "g" "[I") (List.mem_of_getElem? (i := 2) rfl)) (fun _ h9 => h9) rfl dX7_after_94 ?_
        refine lv_iconst (v := (4 : Int32)) hx hb dX7_after_97 (by decide) ?_
        obtain ⟨g_10, eg_10, hg_10, hr⟩ := rd_e hr
        refine va_iald hx hb hK hP 1 0 rfl rfl hg_10 dX7_after_98 ?_
        refine tp_ eg_10 ?_
        refine lv_istore_n (lv' := [(2, .int g_10), (0, .ref a_o), (1, .int p0)]) hx hb dX7_after_99 rfl hl (by decide) rfl (fun ls hl => ?_)
        refine lv_aload_n hx hb dX7_after_100 rfl (lv_at hl 1 rfl) ?_
        refine va_get (D := (dC, dI)) (ci := 6) (v := .ref a_o_was) (C := RX7) (T := TX7) (N := 15) hx hb hts iX7 hown hK hP 0 rfl rfl 2 (by decide) (hts (.fieldLink RX7 18 "PascalRowsModel" "was" "[I") (List.mem_of_getElem? (i := 3) rfl)) (fun _ h9 => h9) rfl dX7_after_101 ?_
        refine lv_aload_n hx hb dX7_after_104 rfl (lv_at hl 1 rfl) ?_
        refine va_get (D := (dC, dI)) (ci := 6) (v := .ref a_o_g) (C := RX7) (T := TX7) (N := 15) hx hb hts iX7 hown hK hP 0 rfl rfl 0 (by decide) (hts (.fieldLink RX7 11 "PascalRowsModel" "g" "[I") (List.mem_of_getElem? (i := 2) rfl)) (fun _ h9 => h9) rfl dX7_after_105 ?_
        obtain ⟨u_11, hu_11, hr⟩ := bd_e hr
        refine mu_S ⟨hx, hb, hml, hown, hts⟩ (k_X7_copies l dC dI cI cJ a_o_was a_o_g 64 64 u_2 xc_o_g_27 H.size u_11 hu_11) (va_cwS 2 hts gX7_after_X7_copies rfl rfl rfl (by decide +kernel) ⟨Nat.le_of_ble_eq_true rfl, Nat.le_of_ble_eq_true rfl⟩) hE rfl hl.1 rfl (Nat.le_of_ble_eq_true rfl) dX7_after_108 ⟨Nat.zero_le _, Nat.zero_le _⟩ hP (hD.fst rfl) hS hA [2, 1] [0, 3] [0, 3, 2, 1] rfl rfl (by decide) (by decide) rfl (by decide) (W1 := [(a_o, .inr (6, [.ref a_o_g, .ref a_o_kept, .ref a_o_was, .int o_isKept, .ref a_o_triangle, .int o_takenBy, .ref a_o_text, .int o_fed, .int o_place, .int o_letter, .int o_first, .int o_second, .ref a_o_sort, .ref a_o_size, .ref a_o_items])), (a_o_g, .inl (cI, 64, .inl u_11)), (a_o_was, .inl (cI, 64, .inl u_2)), (a_o_triangle, .inl (cI, 16384, .inl o_triangle))]) rfl (fun H locs hP hS => W.eq (g2 := F0 m 111 ls []) rfl ?_)
        refine lv_iload_n hx hb dX7_after_111 rfl (lv_at hl 0 rfl) ?_
        obtain rfl := Option.some.inj hr
        exact hret H locs _ hP hS (fun Qc free hq hf => W.iret hx hb hrt hq hf dX7_after_112 hlocks)
      · have hr := ite_p hr c_9
        refine lv_aload_n hx hb dX7_after_86 rfl (lv_at hl 0 rfl) ?_
        obtain ⟨u_12, hu_12, hr⟩ := bd_e hr
        refine ro_V ⟨hx, hb, hml, hown, hts⟩ (k_X7_modulus l dC dI cI cJ a_o a_o_g a_o_kept a_o_was a_o_triangle a_o_text a_o_sort a_o_size a_o_items o_isKept o_takenBy o_fed o_place o_letter o_first o_second xc_o_g_27 u_12 hu_12) (cwV 0 hts gX7_after_X7_modulus rfl rfl rfl (by decide +kernel) ⟨Nat.le_of_ble_eq_true rfl, Nat.le_of_ble_eq_true rfl⟩) hE hP 0 rfl rfl rfl (hP.sub [0, 1] rfl) rfl hl.1 rfl (Nat.le_of_ble_eq_true rfl) dX7_after_87 ⟨Nat.zero_le _, Nat.zero_le _⟩ ?_
        refine lv_goto (tgt := 99) hx hb dX7_after_90 (by decide) ?_
        refine lv_istore_n (lv' := [(2, .int u_12), (0, .ref a_o), (1, .int p0)]) hx hb dX7_after_99 rfl hl (by decide) rfl (fun ls hl => ?_)
        refine lv_aload_n hx hb dX7_after_100 rfl (lv_at hl 1 rfl) ?_
        refine va_get (D := (dC, dI)) (ci := 6) (v := .ref a_o_was) (C := RX7) (T := TX7) (N := 15) hx hb hts iX7 hown hK hP 0 rfl rfl 2 (by decide) (hts (.fieldLink RX7 18 "PascalRowsModel" "was" "[I") (List.mem_of_getElem? (i := 3) rfl)) (fun _ h9 => h9) rfl dX7_after_101 ?_
        refine lv_aload_n hx hb dX7_after_104 rfl (lv_at hl 1 rfl) ?_
        refine va_get (D := (dC, dI)) (ci := 6) (v := .ref a_o_g) (C := RX7) (T := TX7) (N := 15) hx hb hts iX7 hown hK hP 0 rfl rfl 0 (by decide) (hts (.fieldLink RX7 11 "PascalRowsModel" "g" "[I") (List.mem_of_getElem? (i := 2) rfl)) (fun _ h9 => h9) rfl dX7_after_105 ?_
        obtain ⟨u_13, hu_13, hr⟩ := bd_e hr
        refine mu_S ⟨hx, hb, hml, hown, hts⟩ (k_X7_copies l dC dI cI cJ a_o_was a_o_g 64 64 u_2 xc_o_g_27 H.size u_13 hu_13) (va_cwS 2 hts gX7_after_X7_copies rfl rfl rfl (by decide +kernel) ⟨Nat.le_of_ble_eq_true rfl, Nat.le_of_ble_eq_true rfl⟩) hE rfl hl.1 rfl (Nat.le_of_ble_eq_true rfl) dX7_after_108 ⟨Nat.zero_le _, Nat.zero_le _⟩ hP (hD.fst rfl) hS hA [2, 1] [0, 3] [0, 3, 2, 1] rfl rfl (by decide) (by decide) rfl (by decide) (W1 := [(a_o, .inr (6, [.ref a_o_g, .ref a_o_kept, .ref a_o_was, .int o_isKept, .ref a_o_triangle, .int o_takenBy, .ref a_o_text, .int o_fed, .int o_place, .int o_letter, .int o_first, .int o_second, .ref a_o_sort, .ref a_o_size, .ref a_o_items])), (a_o_g, .inl (cI, 64, .inl u_13)), (a_o_was, .inl (cI, 64, .inl u_2)), (a_o_triangle, .inl (cI, 16384, .inl o_triangle))]) rfl (fun H locs hP hS => W.eq (g2 := F0 m 111 ls []) rfl ?_)
        refine lv_iload_n hx hb dX7_after_111 rfl (lv_at hl 0 rfl) ?_
        obtain rfl := Option.some.inj hr
        exact hret H locs _ hP hS (fun Qc free hq hf => W.iret hx hb hrt hq hf dX7_after_112 hlocks)
    · have hr := ite_p hr c_8
      refine lv_aload_n hx hb dX7_after_74 rfl (lv_at hl 0 rfl) ?_
      obtain ⟨u_14, hu_14, hr⟩ := bd_e hr
      refine mu_V ⟨hx, hb, hml, hown, hts⟩ (k_X7_markedInWindow l dC dI cI cJ a_o a_o_g a_o_kept a_o_was a_o_triangle a_o_text a_o_sort a_o_size a_o_items o_isKept o_takenBy o_fed o_place o_letter o_first o_second xc_o_g_27 o_triangle H.size u_14 hu_14) (cwV 0 hts gX7_after_X7_markedInWindow rfl rfl rfl (by decide +kernel) ⟨Nat.le_of_ble_eq_true rfl, Nat.le_of_ble_eq_true rfl⟩) hE 0 rfl rfl rfl rfl hl.1 rfl (Nat.le_of_ble_eq_true rfl) dX7_after_75 ⟨Nat.zero_le _, Nat.zero_le _⟩ hP (hD.fst rfl) hS hA [0, 1, 3] [2] [1, 2, 0, 3] rfl rfl (by decide) (by decide) rfl (by decide) (W1 := [(a_o, .inr (6, [.ref a_o_g, .ref a_o_kept, .ref a_o_was, .int o_isKept, .ref a_o_triangle, .int u_14.2.2, .ref a_o_text, .int o_fed, .int o_place, .int o_letter, .int o_first, .int o_second, .ref a_o_sort, .ref a_o_size, .ref a_o_items])), (a_o_g, .inl (cI, 64, .inl xc_o_g_27)), (a_o_was, .inl (cI, 64, .inl u_2)), (a_o_triangle, .inl (cI, 16384, .inl u_14.2.1))]) rfl (fun H locs hP hS => W.eq (g2 := F0 m 78 ls [.int u_14.1]) rfl ?_)
      refine lv_goto (tgt := 99) hx hb dX7_after_78 (by decide) ?_
      refine lv_istore_n (lv' := [(2, .int u_14.1), (0, .ref a_o), (1, .int p0)]) hx hb dX7_after_99 rfl hl (by decide) rfl (fun ls hl => ?_)
      refine lv_aload_n hx hb dX7_after_100 rfl (lv_at hl 1 rfl) ?_
      refine va_get (D := (dC, dI)) (ci := 6) (v := .ref a_o_was) (C := RX7) (T := TX7) (N := 15) hx hb hts iX7 hown hK hP 0 rfl rfl 2 (by decide) (hts (.fieldLink RX7 18 "PascalRowsModel" "was" "[I") (List.mem_of_getElem? (i := 3) rfl)) (fun _ h9 => h9) rfl dX7_after_101 ?_
      refine lv_aload_n hx hb dX7_after_104 rfl (lv_at hl 1 rfl) ?_
      refine va_get (D := (dC, dI)) (ci := 6) (v := .ref a_o_g) (C := RX7) (T := TX7) (N := 15) hx hb hts iX7 hown hK hP 0 rfl rfl 0 (by decide) (hts (.fieldLink RX7 11 "PascalRowsModel" "g" "[I") (List.mem_of_getElem? (i := 2) rfl)) (fun _ h9 => h9) rfl dX7_after_105 ?_
      obtain ⟨u_15, hu_15, hr⟩ := bd_e hr
      refine mu_S ⟨hx, hb, hml, hown, hts⟩ (k_X7_copies l dC dI cI cJ a_o_was a_o_g 64 64 u_2 xc_o_g_27 H.size u_15 hu_15) (va_cwS 2 hts gX7_after_X7_copies rfl rfl rfl (by decide +kernel) ⟨Nat.le_of_ble_eq_true rfl, Nat.le_of_ble_eq_true rfl⟩) hE rfl hl.1 rfl (Nat.le_of_ble_eq_true rfl) dX7_after_108 ⟨Nat.zero_le _, Nat.zero_le _⟩ hP (hD.fst rfl) hS hA [2, 1] [0, 3] [0, 3, 2, 1] rfl rfl (by decide) (by decide) rfl (by decide) (W1 := [(a_o, .inr (6, [.ref a_o_g, .ref a_o_kept, .ref a_o_was, .int o_isKept, .ref a_o_triangle, .int u_14.2.2, .ref a_o_text, .int o_fed, .int o_place, .int o_letter, .int o_first, .int o_second, .ref a_o_sort, .ref a_o_size, .ref a_o_items])), (a_o_g, .inl (cI, 64, .inl u_15)), (a_o_was, .inl (cI, 64, .inl u_2)), (a_o_triangle, .inl (cI, 16384, .inl u_14.2.1))]) rfl (fun H locs hP hS => W.eq (g2 := F0 m 111 ls []) rfl ?_)
      refine lv_iload_n hx hb dX7_after_111 rfl (lv_at hl 0 rfl) ?_
      obtain rfl := Option.some.inj hr
      exact hret H locs _ hP hS (fun Qc free hq hf => W.iret hx hb hrt hq hf dX7_after_112 hlocks)
  · have hr := ite_p hr c_1
    refine lv_iconst (v := (-1 : Int32)) hx hb dX7_after_12 (by decide) ?_
    obtain rfl := Option.some.inj hr
    exact hret H locs _ hP hS (fun Qc free hq hf => W.iret hx hb hrt hq hf dX7_after_13 hlocks)
/-! X7_book -/
def rmX7_book : Room := { frames := 2, cells := 0, slots := 0, locals := 45 }
set_option maxHeartbeats 4000000 in
set_option maxRecDepth 100000 in
theorem k_X7_book (l : Launch) (dC : Nat → ClassId) (dI : Nat → Nat → Nat) (cI cJ : ClassId) (a_o : Nat) (a_o_g : Nat) (a_o_kept : Nat) (a_o_was : Nat) (a_o_triangle : Nat) (a_o_text : Nat) (a_o_sort : Nat) (a_o_size : Nat) (a_o_items : Nat) (p0 : Int32) (p1 : Int32) (o_isKept : Int32) (o_takenBy : Int32) (o_fed : Int32) (o_place : Int32) (o_letter : Int32) (o_first : Int32) (o_second : Int32) (o_g : Nat → Int32) (sz : Nat) (r : Int32 × (Nat → Int32)) (hr : f_X7_book p0 p1 o_g = some r) : Met l yX7_book wsX7_book rmX7_book (va_Pc [.ref a_o, .int p0, .int p1] (pM (dC, dI) cI cJ [(a_o, .inr (6, [.ref a_o_g, .ref a_o_kept, .ref a_o_was, .int o_isKept, .ref a_o_triangle, .int o_takenBy, .ref a_o_text, .int o_fed, .int o_place, .int o_letter, .int o_first, .int o_second, .ref a_o_sort, .ref a_o_size, .ref a_o_items])), (a_o_g, .inl (cI, 64, .inl o_g))] sz)) (qM (some (.int r.1)) (dC, dI) [(a_o, .inr (6, [.ref a_o_g, .ref a_o_kept, .ref a_o_was, .int o_isKept, .ref a_o_triangle, .int o_takenBy, .ref a_o_text, .int o_fed, .int o_place, .int o_letter, .int o_first, .int o_second, .ref a_o_sort, .ref a_o_size, .ref a_o_items])), (a_o_g, .inl (cI, 64, .inl r.2))] (va_A [(a_o, .inr (6, [.ref a_o_g, .ref a_o_kept, .ref a_o_was, .int o_isKept, .ref a_o_triangle, .int o_takenBy, .ref a_o_text, .int o_fed, .int o_place, .int o_letter, .int o_first, .int o_second, .ref a_o_sort, .ref a_o_size, .ref a_o_items])), (a_o_g, .inl (cI, 64, .inl o_g))] sz)) 0 0 (va_A [(a_o, .inr (6, [.ref a_o_g, .ref a_o_kept, .ref a_o_was, .int o_isKept, .ref a_o_triangle, .int o_takenBy, .ref a_o_text, .int o_fed, .int o_place, .int o_letter, .int o_first, .int o_second, .ref a_o_sort, .ref a_o_size, .ref a_o_items])), (a_o_g, .inl (cI, 64, .inl o_g))] sz) := by
  refine mu_of (cc := cX7_book) (maxL := 3) (by decide) rfl (Nat.le_of_ble_eq_true rfl) ?_
  intro p e s m args below meth c Q ls A hx hb hml hown hts hE hP hD hA hrt hlocks hret hl
  have hK := hE.1
  have hS : va_S A s.heap s.heap [] := va_S.rf
  have hl : lv_has ls 3 [(0, .ref a_o), (1, .int p0), (2, .int p1)] := hl
  unfold f_X7_book at hr
  obtain ⟨H, hHe⟩ : ∃ H, H = s.heap := ⟨_, rfl⟩
  obtain ⟨locs, hLe⟩ : ∃ locs : List Loc, locs = [] := ⟨_, rfl⟩
  suffices hgo : va_P (dC, dI) vwCl [(a_o, .inr (6, [.ref a_o_g, .ref a_o_kept, .ref a_o_was, .int o_isKept, .ref a_o_triangle, .int o_takenBy, .ref a_o_text, .int o_fed, .int o_place, .int o_letter, .int o_first, .int o_second, .ref a_o_sort, .ref a_o_size, .ref a_o_items])), (a_o_g, .inl (cI, 64, .inl o_g))] H → va_S A s.heap H locs → W p l e rmX7_book s m args below meth c H locs 0 0 Q (F0 m 0 ls []) by
    subst hHe; subst hLe; exact hgo hP hS
  clear hP hS hHe hLe
  intro hP hS
  have iX7 : ∀ w ∈ wsX70, w ∈ wsX7_book := memr_ (big := wsX7_book) wsX70 [11, 12, 13, 14, 15, 16, 17, 18, 19, 20, 21, 22, 23, 24, 25] (by decide +kernel)
  refine lv_iload_n hx hb dX7_book_0 rfl (lv_at hl 1 rfl) ?_
  refine lv_iconst (v := (-1 : Int32)) hx hb dX7_book_1 (by decide) ?_
  refine lv_icmp_ne (tgt := 15) hx hb dX7_book_2 (by decide) (fun c_1 => ?_) (fun c_1 => ?_)
  · have hr := ite_n hr c_1
    refine lv_iload_n hx hb dX7_book_15 rfl (lv_at hl 1 rfl) ?_
    refine ro_S ⟨hx, hb, hml, hown, hts⟩ (k_X7_isRow l dC dI cI cJ p0) (va_cwS 1 hts gX7_book_X7_isRow rfl rfl rfl (by decide +kernel) ⟨Nat.le_of_ble_eq_true rfl, Nat.le_of_ble_eq_true rfl⟩) hE (hP.sub [] rfl) rfl hl.1 rfl (Nat.le_of_ble_eq_true rfl) dX7_book_16 ⟨Nat.zero_le _, Nat.zero_le _⟩ ?_
    refine lv_if_ne (tgt := 24) hx hb dX7_book_19 (by decide) (fun c_2 => ?_) (fun c_2 => ?_)
    · have hr := ite_n hr c_2
      refine lv_iload_n hx hb dX7_book_24 rfl (lv_at hl 2 rfl) ?_
      refine lv_i2l (v := (Int32.toInt64 p1)) hx hb dX7_book_25 rfl ?_
      refine lv_lconst (v := (0 : Int64)) hx hb dX7_book_26 (by decide) ?_
      refine lv_ldc2 (v := (2400 : Int64)) hx hb hown (hts (.constantLong RX7 97 (2400)) (List.mem_of_getElem? (i := 2) rfl)) dX7_book_27 ?_
      refine ro_S ⟨hx, hb, hml, hown, hts⟩ (k_X7_isIn l dC dI cI cJ (Int32.toInt64 p1) (0 : Int64) (2400 : Int64)) (va_cwS 3 hts gX7_book_X7_isIn rfl rfl rfl (by decide +kernel) ⟨Nat.le_of_ble_eq_true rfl, Nat.le_of_ble_eq_true rfl⟩) hE (hP.sub [] rfl) rfl hl.1 rfl (Nat.le_of_ble_eq_true rfl) dX7_book_30 ⟨Nat.zero_le _, Nat.zero_le _⟩ ?_
      refine lv_if_ne (tgt := 39) hx hb dX7_book_33 (by decide) (fun c_3 => ?_) (fun c_3 => ?_)
      · have hr := ite_n hr c_3
        refine lv_aload_n hx hb dX7_book_39 rfl (lv_at hl 0 rfl) ?_
        refine va_get (D := (dC, dI)) (ci := 6) (v := .ref a_o_g) (C := RX7) (T := TX7) (N := 15) hx hb hts iX7 hown hK hP 0 rfl rfl 0 (by decide) (hts (.fieldLink RX7 11 "PascalRowsModel" "g" "[I") (List.mem_of_getElem? (i := 1) rfl)) (fun _ h9 => h9) rfl dX7_book_40 ?_
        refine lv_bipush (v := (47 : Int32)) hx hb dX7_book_43 (by decide) ?_
        obtain ⟨g_4, eg_4, hg_4, hr⟩ := rd_e hr
        refine va_iald hx hb hK hP 1 0 rfl rfl hg_4 dX7_book_45 ?_
        refine tp_ eg_4 ?_
        refine lv_bipush (v := (8 : Int32)) hx hb dX7_book_46 (by decide) ?_
        refine lv_icmp_ne (tgt := 54) hx hb dX7_book_48 (by decide) (fun c_5 => ?_) (fun c_5 => ?_)
        · have hr := ite_n hr c_5
          refine lv_aload_n hx hb dX7_book_54 rfl (lv_at hl 0 rfl) ?_
          refine va_get (D := (dC, dI)) (ci := 6) (v := .ref a_o_g) (C := RX7) (T := TX7) (N := 15) hx hb hts iX7 hown hK hP 0 rfl rfl 0 (by decide) (hts (.fieldLink RX7 11 "PascalRowsModel" "g" "[I") (List.mem_of_getElem? (i := 1) rfl)) (fun _ h9 => h9) rfl dX7_book_55 ?_
          refine lv_bipush (v := (48 : Int32)) hx hb dX7_book_58 (by decide) ?_
          refine lv_iconst (v := (2 : Int32)) hx hb dX7_book_60 (by decide) ?_
          refine lv_aload_n hx hb dX7_book_61 rfl (lv_at hl 0 rfl) ?_
          refine va_get (D := (dC, dI)) (ci := 6) (v := .ref a_o_g) (C := RX7) (T := TX7) (N := 15) hx hb hts iX7 hown hK hP 0 rfl rfl 0 (by decide) (hts (.fieldLink RX7 11 "PascalRowsModel" "g" "[I") (List.mem_of_getElem? (i := 1) rfl)) (fun _ h9 => h9) rfl dX7_book_62 ?_
          refine lv_bipush (v := (47 : Int32)) hx hb dX7_book_65 (by decide) ?_
          obtain ⟨g_6, eg_6, hg_6, hr⟩ := rd_e hr
          refine va_iald hx hb hK hP 1 0 rfl rfl hg_6 dX7_book_67 ?_
          refine tp_ eg_6 ?_
          refine lv_imul hx hb dX7_book_68 ?_
          refine lv_iadd hx hb dX7_book_69 ?_
          refine lv_iload_n hx hb dX7_book_70 rfl (lv_at hl 1 rfl) ?_
          obtain ⟨w_7, ew_7, hw_7, hr⟩ := wr_e hr
          refine va_iast hx hb hK hP (hD.fst rfl) hS 1 0 rfl rfl hw_7 dX7_book_71 (fun H locs hP _ hS => ?_)
          rw [← ew_7] at hP
          have hP : va_P (dC, dI) vwCl [(a_o, .inr (6, [.ref a_o_g, .ref a_o_kept, .ref a_o_was, .int o_isKept, .ref a_o_triangle, .int o_takenBy, .ref a_o_text, .int o_fed, .int o_place, .int o_letter, .int o_first, .int o_second, .ref a_o_sort, .ref a_o_size, .ref a_o_items])), (a_o_g, .inl (cI, 64, .inl w_7))] H := hP
          refine lv_aload_n hx hb dX7_book_72 rfl (lv_at hl 0 rfl) ?_
          refine va_get (D := (dC, dI)) (ci := 6) (v := .ref a_o_g) (C := RX7) (T := TX7) (N := 15) hx hb hts iX7 hown hK hP 0 rfl rfl 0 (by decide) (hts (.fieldLink RX7 11 "PascalRowsModel" "g" "[I") (List.mem_of_getElem? (i := 1) rfl)) (fun _ h9 => h9) rfl dX7_book_73 ?_
          refine lv_bipush (v := (49 : Int32)) hx hb dX7_book_76 (by decide) ?_
          refine lv_iconst (v := (2 : Int32)) hx hb dX7_book_78 (by decide) ?_
          refine lv_aload_n hx hb dX7_book_79 rfl (lv_at hl 0 rfl) ?_
          refine va_get (D := (dC, dI)) (ci := 6) (v := .ref a_o_g) (C := RX7) (T := TX7) (N := 15) hx hb hts iX7 hown hK hP 0 rfl rfl 0 (by decide) (hts (.fieldLink RX7 11 "PascalRowsModel" "g" "[I") (List.mem_of_getElem? (i := 1) rfl)) (fun _ h9 => h9) rfl dX7_book_80 ?_
          refine lv_bipush (v := (47 : Int32)) hx hb dX7_book_83 (by decide) ?_
          obtain ⟨g_8, eg_8, hg_8, hr⟩ := rd_e hr
          refine va_iald hx hb hK hP 1 0 rfl rfl hg_8 dX7_book_85 ?_
          refine tp_ eg_8 ?_
          refine lv_imul hx hb dX7_book_86 ?_
          refine lv_iadd hx hb dX7_book_87 ?_
          refine lv_iload_n hx hb dX7_book_88 rfl (lv_at hl 2 rfl) ?_
          obtain ⟨w_9, ew_9, hw_9, hr⟩ := wr_e hr
          refine va_iast hx hb hK hP (hD.fst rfl) hS 1 0 rfl rfl hw_9 dX7_book_89 (fun H locs hP _ hS => ?_)
          rw [← ew_9] at hP
          have hP : va_P (dC, dI) vwCl [(a_o, .inr (6, [.ref a_o_g, .ref a_o_kept, .ref a_o_was, .int o_isKept, .ref a_o_triangle, .int o_takenBy, .ref a_o_text, .int o_fed, .int o_place, .int o_letter, .int o_first, .int o_second, .ref a_o_sort, .ref a_o_size, .ref a_o_items])), (a_o_g, .inl (cI, 64, .inl w_9))] H := hP
          refine lv_aload_n hx hb dX7_book_90 rfl (lv_at hl 0 rfl) ?_
          refine va_get (D := (dC, dI)) (ci := 6) (v := .ref a_o_g) (C := RX7) (T := TX7) (N := 15) hx hb hts iX7 hown hK hP 0 rfl rfl 0 (by decide) (hts (.fieldLink RX7 11 "PascalRowsModel" "g" "[I") (List.mem_of_getElem? (i := 1) rfl)) (fun _ h9 => h9) rfl dX7_book_91 ?_
          refine lv_bipush (v := (47 : Int32)) hx hb dX7_book_94 (by decide) ?_
          refine lv_dup2_11 hx hb dX7_book_96 rfl rfl ?_
          obtain ⟨g_10, eg_10, hg_10, hr⟩ := rd_e hr
          refine va_iald hx hb hK hP 1 0 rfl rfl hg_10 dX7_book_97 ?_
          refine tp_ eg_10 ?_
          refine lv_iconst (v := (1 : Int32)) hx hb dX7_book_98 (by decide) ?_
          refine lv_iadd hx hb dX7_book_99 ?_
          obtain ⟨w_11, ew_11, hw_11, hr⟩ := wr_e hr
          refine va_iast hx hb hK hP (hD.fst rfl) hS 1 0 rfl rfl hw_11 dX7_book_100 (fun H locs hP _ hS => ?_)
          rw [← ew_11] at hP
          have hP : va_P (dC, dI) vwCl [(a_o, .inr (6, [.ref a_o_g, .ref a_o_kept, .ref a_o_was, .int o_isKept, .ref a_o_triangle, .int o_takenBy, .ref a_o_text, .int o_fed, .int o_place, .int o_letter, .int o_first, .int o_second, .ref a_o_sort, .ref a_o_size, .ref a_o_items])), (a_o_g, .inl (cI, 64, .inl w_11))] H := hP
          refine lv_aload_n hx hb dX7_book_101 rfl (lv_at hl 0 rfl) ?_
          refine va_get (D := (dC, dI)) (ci := 6) (v := .ref a_o_g) (C := RX7) (T := TX7) (N := 15) hx hb hts iX7 hown hK hP 0 rfl rfl 0 (by decide) (hts (.fieldLink RX7 11 "PascalRowsModel" "g" "[I") (List.mem_of_getElem? (i := 1) rfl)) (fun _ h9 => h9) rfl dX7_book_102 ?_
          refine lv_bipush (v := (47 : Int32)) hx hb dX7_book_105 (by decide) ?_
          obtain ⟨g_12, eg_12, hg_12, hr⟩ := rd_e hr
          refine va_iald hx hb hK hP 1 0 rfl rfl hg_12 dX7_book_107 ?_
          refine tp_ eg_12 ?_
          obtain rfl := Option.some.inj hr
          exact hret H locs _ hP hS (fun Qc free hq hf => W.iret hx hb hrt hq hf dX7_book_108 hlocks)
        · have hr := ite_p hr c_5
          refine lv_bipush (v := (-4 : Int32)) hx hb dX7_book_51 (by decide) ?_
          obtain rfl := Option.some.inj hr
          exact hret H locs _ hP hS (fun Qc free hq hf => W.iret hx hb hrt hq hf dX7_book_53 hlocks)
      · have hr := ite_p hr c_3
        refine lv_bipush (v := (-2 : Int32)) hx hb dX7_book_36 (by decide) ?_
        obtain rfl := Option.some.inj hr
        exact hret H locs _ hP hS (fun Qc free hq hf => W.iret hx hb hrt hq hf dX7_book_38 hlocks)
    · have hr := ite_p hr c_2
      refine lv_iconst (v := (-1 : Int32)) hx hb dX7_book_22 (by decide) ?_
      obtain rfl := Option.some.inj hr
      exact hret H locs _ hP hS (fun Qc free hq hf => W.iret hx hb hrt hq hf dX7_book_23 hlocks)
  · have hr := ite_p hr c_1
    refine lv_aload_n hx hb dX7_book_5 rfl (lv_at hl 0 rfl) ?_
    refine va_get (D := (dC, dI)) (ci := 6) (v := .ref a_o_g) (C := RX7) (T := TX7) (N := 15) hx hb hts iX7 hown hK hP 0 rfl rfl 0 (by decide) (hts (.fieldLink RX7 11 "PascalRowsModel" "g" "[I") (List.mem_of_getElem? (i := 1) rfl)) (fun _ h9 => h9) rfl dX7_book_6 ?_
    refine lv_bipush (v := (47 : Int32)) hx hb dX7_book_9 (by decide) ?_
    refine lv_iconst (v := (0 : Int32)) hx hb dX7_book_11 (by decide) ?_
    obtain ⟨w_13, ew_13, hw_13, hr⟩ := wr_e hr
    refine va_iast hx hb hK hP (hD.fst rfl) hS 1 0 rfl rfl hw_13 dX7_book_12 (fun H locs hP _ hS => ?_)
    rw [← ew_13] at hP
    have hP : va_P (dC, dI) vwCl [(a_o, .inr (6, [.ref a_o_g, .ref a_o_kept, .ref a_o_was, .int o_isKept, .ref a_o_triangle, .int o_takenBy, .ref a_o_text, .int o_fed, .int o_place, .int o_letter, .int o_first, .int o_second, .ref a_o_sort, .ref a_o_size, .ref a_o_items])), (a_o_g, .inl (cI, 64, .inl w_13))] H := hP
    refine lv_iconst (v := (0 : Int32)) hx hb dX7_book_13 (by decide) ?_
    obtain rfl := Option.some.inj hr
    exact hret H locs _ hP hS (fun Qc free hq hf => W.iret hx hb hrt hq hf dX7_book_14 hlocks)
/-! X7_looked -/
def rmX7_looked : Room := { frames := 3, cells := 0, slots := 0, locals := 65 }
set_option maxHeartbeats 4000000 in
set_option maxRecDepth 100000 in
theorem k_X7_looked (l : Launch) (dC : Nat → ClassId) (dI : Nat → Nat → Nat) (cI cJ : ClassId) (a_o : Nat) (a_o_g : Nat) (a_o_kept : Nat) (a_o_was : Nat) (a_o_triangle : Nat) (a_o_text : Nat) (a_o_sort : Nat) (a_o_size : Nat) (a_o_items : Nat) (o_isKept : Int32) (o_takenBy : Int32) (o_fed : Int32) (o_place : Int32) (o_letter : Int32) (o_first : Int32) (o_second : Int32) (o_g : Nat → Int32) (o_triangle : Nat → Int32) (sz : Nat) (r : Int32 × (Nat → Int32) × Int32) (hr : f_X7_looked o_g o_triangle o_takenBy = some r) : Met l yX7_looked wsX7_looked rmX7_looked (va_Pc [.ref a_o] (pM (dC, dI) cI cJ [(a_o, .inr (6, [.ref a_o_g, .ref a_o_kept, .ref a_o_was, .int o_isKept, .ref a_o_triangle, .int o_takenBy, .ref a_o_text, .int o_fed, .int o_place, .int o_letter, .int o_first, .int o_second, .ref a_o_sort, .ref a_o_size, .ref a_o_items])), (a_o_g, .inl (cI, 64, .inl o_g)), (a_o_triangle, .inl (cI, 16384, .inl o_triangle))] sz)) (qM (some (.int r.1)) (dC, dI) [(a_o, .inr (6, [.ref a_o_g, .ref a_o_kept, .ref a_o_was, .int o_isKept, .ref a_o_triangle, .int r.2.2, .ref a_o_text, .int o_fed, .int o_place, .int o_letter, .int o_first, .int o_second, .ref a_o_sort, .ref a_o_size, .ref a_o_items])), (a_o_g, .inl (cI, 64, .inl o_g)), (a_o_triangle, .inl (cI, 16384, .inl r.2.1))] (va_A [(a_o, .inr (6, [.ref a_o_g, .ref a_o_kept, .ref a_o_was, .int o_isKept, .ref a_o_triangle, .int o_takenBy, .ref a_o_text, .int o_fed, .int o_place, .int o_letter, .int o_first, .int o_second, .ref a_o_sort, .ref a_o_size, .ref a_o_items])), (a_o_g, .inl (cI, 64, .inl o_g)), (a_o_triangle, .inl (cI, 16384, .inl o_triangle))] sz)) 0 0 (va_A [(a_o, .inr (6, [.ref a_o_g, .ref a_o_kept, .ref a_o_was, .int o_isKept, .ref a_o_triangle, .int o_takenBy, .ref a_o_text, .int o_fed, .int o_place, .int o_letter, .int o_first, .int o_second, .ref a_o_sort, .ref a_o_size, .ref a_o_items])), (a_o_g, .inl (cI, 64, .inl o_g)), (a_o_triangle, .inl (cI, 16384, .inl o_triangle))] sz) := by
  refine mu_of (cc := cX7_looked) (maxL := 2) (by decide) rfl (Nat.le_of_ble_eq_true rfl) ?_
  intro p e s m args below meth c Q ls A hx hb hml hown hts hE hP hD hA hrt hlocks hret hl
  have hK := hE.1
  have hS : va_S A s.heap s.heap [] := va_S.rf
  have hl : lv_has ls 2 [(0, .ref a_o)] := hl
  unfold f_X7_looked at hr
  obtain ⟨H, hHe⟩ : ∃ H, H = s.heap := ⟨_, rfl⟩
  obtain ⟨locs, hLe⟩ : ∃ locs : List Loc, locs = [] := ⟨_, rfl⟩
  suffices hgo : va_P (dC, dI) vwCl [(a_o, .inr (6, [.ref a_o_g, .ref a_o_kept, .ref a_o_was, .int o_isKept, .ref a_o_triangle, .int o_takenBy, .ref a_o_text, .int o_fed, .int o_place, .int o_letter, .int o_first, .int o_second, .ref a_o_sort, .ref a_o_size, .ref a_o_items])), (a_o_g, .inl (cI, 64, .inl o_g)), (a_o_triangle, .inl (cI, 16384, .inl o_triangle))] H → va_S A s.heap H locs → W p l e rmX7_looked s m args below meth c H locs 0 0 Q (F0 m 0 ls []) by
    subst hHe; subst hLe; exact hgo hP hS
  clear hP hS hHe hLe
  intro hP hS
  have iX7 : ∀ w ∈ wsX70, w ∈ wsX7_looked := memr_ (big := wsX7_looked) wsX70 [24, 25, 26, 27, 28, 29, 30, 31, 32, 33, 34, 35, 36, 37, 38] (by decide +kernel)
  refine lv_iconst (v := (0 : Int32)) hx hb dX7_looked_0 (by decide) ?_
  refine lv_istore_n (lv' := [(1, .int (0 : Int32)), (0, .ref a_o)]) hx hb dX7_looked_1 rfl hl (by decide) rfl (fun ls hl => ?_)
  have hL2 : ∀  (k_2 : (Nat → Int32) → (Int32) → Option (Int32 × (Nat → Int32) × Int32)) (hk : ∀ (xc_o_triangle_2 : Nat → Int32) (xc_o_takenBy_2 : Int32) (ls : Array Slot), lv_has ls 2 [] → ∀ (H : Heap) (locs : List Loc), va_P (dC, dI) vwCl [(a_o, .inr (6, [.ref a_o_g, .ref a_o_kept, .ref a_o_was, .int o_isKept, .ref a_o_triangle, .int xc_o_takenBy_2, .ref a_o_text, .int o_fed, .int o_place, .int o_letter, .int o_first, .int o_second, .ref a_o_sort, .ref a_o_size, .ref a_o_items])), (a_o_g, .inl (cI, 64, .inl o_g)), (a_o_triangle, .inl (cI, 16384, .inl xc_o_triangle_2))] H → va_S A s.heap H locs →  k_2 xc_o_triangle_2 xc_o_takenBy_2 = some r → W p l e rmX7_looked s m args below meth c H locs 0 0 Q (F0 m 52 ls [])) (fuel : Nat) (v1_2 : Int32) (o_triangle_2 : Nat → Int32) (o_takenBy_2 : Int32) (ls : Array Slot), lv_has ls 2 [(0, .ref a_o), (1, .int v1_2)] → ∀ (H : Heap) (locs : List Loc), va_P (dC, dI) vwCl [(a_o, .inr (6, [.ref a_o_g, .ref a_o_kept, .ref a_o_was, .int o_isKept, .ref a_o_triangle, .int o_takenBy_2, .ref a_o_text, .int o_fed, .int o_place, .int o_letter, .int o_first, .int o_second, .ref a_o_sort, .ref a_o_size, .ref a_o_items])), (a_o_g, .inl (cI, 64, .inl o_g)), (a_o_triangle, .inl (cI, 16384, .inl o_triangle_2))] H → va_S A s.heap H locs → f_X7_looked_L2 k_2 o_g fuel v1_2 o_triangle_2 o_takenBy_2 = some r → W p l e rmX7_looked s m args below meth c H locs 0 0 Q (F0 m 2 ls []) := by
    intro k_2 hk fuel
    induction fuel with
    | zero =>
      intro v1_2 o_triangle_2 o_takenBy_2 ls hl H locs hP hS hr
      rw [f_X7_looked_L2_z] at hr
      cases hr
    | succ fuel ih =>
      intro v1_2 o_triangle_2 o_takenBy_2 ls hl H locs hP hS hr
      rw [f_X7_looked_L2_s] at hr
      refine lv_iload_n hx hb dX7_looked_2 rfl (lv_at hl 1 rfl) ?_
      refine lv_aload_n hx hb dX7_looked_3 rfl (lv_at hl 0 rfl) ?_
      refine va_get (D := (dC, dI)) (ci := 6) (v := .ref a_o_g) (C := RX7) (T := TX7) (N := 15) hx hb hts iX7 hown hK hP 0 rfl rfl 0 (by decide) (hts (.fieldLink RX7 11 "PascalRowsModel" "g" "[I") (List.mem_of_getElem? (i := 1) rfl)) (fun _ h9 => h9) rfl dX7_looked_4 ?_
      refine lv_bipush (v := (47 : Int32)) hx hb dX7_looked_7 (by decide) ?_
      obtain ⟨g_1, eg_1, hg_1, hr⟩ := rd_e hr
      refine va_iald hx hb hK hP 1 0 rfl rfl hg_1 dX7_looked_9 ?_
      refine tp_ eg_1 ?_
      refine lv_icmp_ge (tgt := 52) hx hb dX7_looked_10 (by decide) (fun c_2 => ?_) (fun c_2 => ?_)
      · have hr := ite_p hr c_2
        exact hk o_triangle_2 o_takenBy_2 ls (lv_sub hl [] rfl) H locs hP hS hr
      · have hr := ite_n hr c_2
        refine lv_aload_n hx hb dX7_looked_13 rfl (lv_at hl 0 rfl) ?_
        refine lv_aload_n hx hb dX7_looked_14 rfl (lv_at hl 0 rfl) ?_
        refine va_get (D := (dC, dI)) (ci := 6) (v := .ref a_o_g) (C := RX7) (T := TX7) (N := 15) hx hb hts iX7 hown hK hP 0 rfl rfl 0 (by decide) (hts (.fieldLink RX7 11 "PascalRowsModel" "g" "[I") (List.mem_of_getElem? (i := 1) rfl)) (fun _ h9 => h9) rfl dX7_looked_15 ?_
        refine lv_bipush (v := (48 : Int32)) hx hb dX7_looked_18 (by decide) ?_
        refine lv_iconst (v := (2 : Int32)) hx hb dX7_looked_20 (by decide) ?_
        refine lv_iload_n hx hb dX7_looked_21 rfl (lv_at hl 1 rfl) ?_
        refine lv_imul hx hb dX7_looked_22 ?_
        refine lv_iadd hx hb dX7_looked_23 ?_
        obtain ⟨g_3, eg_3, hg_3, hr⟩ := rd_e hr
        refine va_iald hx hb hK hP 1 0 rfl rfl hg_3 dX7_looked_24 ?_
        refine tp_ eg_3 ?_
        refine lv_bipush (v := (10 : Int32)) hx hb dX7_looked_25 (by decide) ?_
        obtain ⟨u_4, hu_4, hr⟩ := bd_e hr
        refine mu_V ⟨hx, hb, hml, hown, hts⟩ (k_X7_remainder l dC dI cI cJ a_o a_o_g a_o_kept a_o_was a_o_triangle a_o_text a_o_sort a_o_size a_o_items g_3 (10 : Int32) o_isKept o_takenBy_2 o_fed o_place o_letter o_first o_second o_g o_triangle_2 H.size u_4 hu_4) (cwV 2 hts gX7_looked_X7_remainder rfl rfl rfl (by decide +kernel) ⟨Nat.le_of_ble_eq_true rfl, Nat.le_of_ble_eq_true rfl⟩) hE 0 rfl rfl rfl rfl hl.1 rfl (Nat.le_of_ble_eq_true rfl) dX7_looked_27 ⟨Nat.zero_le _, Nat.zero_le _⟩ hP (hD.fst rfl) hS hA [0, 1, 2] [] [0, 1, 2] rfl rfl (by decide) (by decide) rfl (by decide) (W1 := [(a_o, .inr (6, [.ref a_o_g, .ref a_o_kept, .ref a_o_was, .int o_isKept, .ref a_o_triangle, .int u_4.2.2, .ref a_o_text, .int o_fed, .int o_place, .int o_letter, .int o_first, .int o_second, .ref a_o_sort, .ref a_o_size, .ref a_o_items])), (a_o_g, .inl (cI, 64, .inl o_g)), (a_o_triangle, .inl (cI, 16384, .inl u_4.2.1))]) rfl (fun H locs hP hS => W.eq (g2 := F0 m 30 ls [.int u_4.1]) rfl ?_)
        refine lv_aload_n hx hb dX7_looked_30 rfl (lv_at hl 0 rfl) ?_
        refine va_get (D := (dC, dI)) (ci := 6) (v := .ref a_o_g) (C := RX7) (T := TX7) (N := 15) hx hb hts iX7 hown hK hP 0 rfl rfl 0 (by decide) (hts (.fieldLink RX7 11 "PascalRowsModel" "g" "[I") (List.mem_of_getElem? (i := 1) rfl)) (fun _ h9 => h9) rfl dX7_looked_31 ?_
        refine lv_bipush (v := (49 : Int32)) hx hb dX7_looked_34 (by decide) ?_
        refine lv_iconst (v := (2 : Int32)) hx hb dX7_looked_36 (by decide) ?_
        refine lv_iload_n hx hb dX7_looked_37 rfl (lv_at hl 1 rfl) ?_
        refine lv_imul hx hb dX7_looked_38 ?_
        refine lv_iadd hx hb dX7_looked_39 ?_
        obtain ⟨g_5, eg_5, hg_5, hr⟩ := rd_e hr
        refine va_iald hx hb hK hP 1 0 rfl rfl hg_5 dX7_looked_40 ?_
        refine tp_ eg_5 ?_
        refine lv_icmp_eq (tgt := 46) hx hb dX7_looked_41 (by decide) (fun c_6 => ?_) (fun c_6 => ?_)
        · have hr := ite_p hr c_6
          refine lv_iinc (v := (v1_2 + (1 : Int32))) (lv' := [(1, .int (v1_2 + (1 : Int32))), (0, .ref a_o)]) hx hb dX7_looked_46 hl (k := 1) rfl (congrArg (fun z => v1_2 + z) (by decide)) (by decide) rfl (fun ls hl => ?_)
          refine lv_goto (tgt := 2) hx hb dX7_looked_49 (by decide) ?_
          exact ih (v1_2 + (1 : Int32)) u_4.2.1 u_4.2.2 ls (lv_sub hl [1, 0] rfl) H locs hP hS hr
        · have hr := ite_n hr c_6
          refine lv_iload_n hx hb dX7_looked_44 rfl (lv_at hl 1 rfl) ?_
          obtain rfl := Option.some.inj hr
          exact hret H locs _ hP hS (fun Qc free hq hf => W.iret hx hb hrt hq hf dX7_looked_45 hlocks)
  refine hL2  _ (fun xc_o_triangle_2 xc_o_takenBy_2 ls hl H locs hP hS hr => ?_) 5000 (0 : Int32) o_triangle o_takenBy ls (lv_sub hl [1, 0] rfl) H locs hP hS hr
  refine lv_bipush (v := (-5 : Int32)) hx hb dX7_looked_52 (by decide) ?_
  obtain rfl := Option.some.inj hr
  exact hret H locs _ hP hS (fun Qc free hq hf => W.iret hx hb hrt hq hf dX7_looked_54 hlocks)
/-! X7_isTape -/
theorem fz_X7_isTape (p0 : Int32) : f_X7_isTape p0 = 0 ∨ f_X7_isTape p0 = 1 := fz_X7_isIn _ _ _
def rmX7_isTape : Room := { frames := 1, cells := 0, slots := 0, locals := 25 }
set_option maxHeartbeats 4000000 in
set_option maxRecDepth 100000 in
theorem k_X7_isTape (l : Launch) (dC : Nat → ClassId) (dI : Nat → Nat → Nat) (cI cJ : ClassId) (p0 : Int32) : Met l yX7_isTape wsX7_isTape rmX7_isTape (va_Pc [.int p0] (pE (dC, dI) cI cJ [])) (rq (.int (f_X7_isTape p0))) 0 0 nofree := by
  refine ro_of_z (cc := cX7_isTape) (maxL := 1) (by decide) rfl (Nat.le_of_ble_eq_true rfl) ?_
  intro p e s m args below meth c Q ls hx hb hml hown hts hE hP hret hl
  have hK := hE.1
  have hl : lv_has ls 1 [(0, .int p0)] := hl
  refine lv_iload_n hx hb dX7_isTape_0 rfl (lv_at hl 0 rfl) ?_
  refine lv_i2l (v := (Int32.toInt64 p0)) hx hb dX7_isTape_1 rfl ?_
  refine lv_lconst (v := (0 : Int64)) hx hb dX7_isTape_2 (by decide) ?_
  refine lv_ldc2 (v := (5 : Int64)) hx hb hown (hts (.constantLong RX7 193 (5)) (List.mem_of_getElem? (i := 1) rfl)) dX7_isTape_3 ?_
  refine ro_S ⟨hx, hb, hml, hown, hts⟩ (k_X7_isIn l dC dI cI cJ (Int32.toInt64 p0) (0 : Int64) (5 : Int64)) (va_cwS 3 hts gX7_isTape_X7_isIn rfl rfl rfl (by decide +kernel) ⟨Nat.le_of_ble_eq_true rfl, Nat.le_of_ble_eq_true rfl⟩) hE (hP.sub [] rfl) rfl hl.1 rfl (Nat.le_of_ble_eq_true rfl) dX7_isTape_6 ⟨Nat.zero_le _, Nat.zero_le _⟩ ?_
  exact hret 9 ls _ dX7_isTape_9 (fz_X7_isIn _ _ _) rfl
/-! X7_isItem -/
def rmX7_isItem : Room := { frames := 1, cells := 0, slots := 0, locals := 25 }
set_option maxHeartbeats 4000000 in
set_option maxRecDepth 100000 in
theorem k_X7_isItem (l : Launch) (dC : Nat → ClassId) (dI : Nat → Nat → Nat) (cI cJ : ClassId) (a_o : Nat) (a_o_g : Nat) (a_o_kept : Nat) (a_o_was : Nat) (a_o_triangle : Nat) (a_o_text : Nat) (a_o_sort : Nat) (a_o_size : Nat) (a_o_items : Nat) (p0 : Int32) (p1 : Int32) (o_isKept : Int32) (o_takenBy : Int32) (o_fed : Int32) (o_place : Int32) (o_letter : Int32) (o_first : Int32) (o_second : Int32) (o_size : Nat → Int32) (r : Int32) (hr : f_X7_isItem p0 p1 o_size = some r) : Met l yX7_isItem wsX7_isItem rmX7_isItem (va_Pc [.ref a_o, .int p0, .int p1] (pE (dC, dI) cI cJ [(a_o, .inr (6, [.ref a_o_g, .ref a_o_kept, .ref a_o_was, .int o_isKept, .ref a_o_triangle, .int o_takenBy, .ref a_o_text, .int o_fed, .int o_place, .int o_letter, .int o_first, .int o_second, .ref a_o_sort, .ref a_o_size, .ref a_o_items])), (a_o_size, .inl (cI, 6, .inl o_size))])) (rq (.int r)) 0 0 nofree := by
  refine ro_of_z (cc := cX7_isItem) (maxL := 3) (by decide) rfl (Nat.le_of_ble_eq_true rfl) ?_
  intro p e s m args below meth c Q ls hx hb hml hown hts hE hP hret hl
  have hK := hE.1
  have hl : lv_has ls 3 [(0, .ref a_o), (1, .int p0), (2, .int p1)] := hl
  unfold f_X7_isItem at hr
  have iX7 : ∀ w ∈ wsX70, w ∈ wsX7_isItem := memr_ (big := wsX7_isItem) wsX70 [6, 7, 8, 9, 10, 11, 12, 13, 14, 15, 16, 17, 18, 19, 20] (by decide +kernel)
  refine lv_iload_n hx hb dX7_isItem_0 rfl (lv_at hl 2 rfl) ?_
  refine lv_i2l (v := (Int32.toInt64 p1)) hx hb dX7_isItem_1 rfl ?_
  refine lv_lconst (v := (0 : Int64)) hx hb dX7_isItem_2 (by decide) ?_
  refine lv_aload_n hx hb dX7_isItem_3 rfl (lv_at hl 0 rfl) ?_
  refine va_get (D := (dC, dI)) (ci := 6) (v := .ref a_o_size) (C := RX7) (T := TX7) (N := 15) hx hb hts iX7 hown hK hP 0 rfl rfl 13 (by decide) (hts (.fieldLink RX7 30 "PascalRowsModel" "size" "[I") (List.mem_of_getElem? (i := 1) rfl)) (fun _ h9 => h9) rfl dX7_isItem_4 ?_
  refine lv_iload_n hx hb dX7_isItem_7 rfl (lv_at hl 1 rfl) ?_
  obtain ⟨g_1, eg_1, hg_1, hr⟩ := rd_e hr
  refine va_iald hx hb hK hP 1 0 rfl rfl hg_1 dX7_isItem_8 ?_
  refine tp_ eg_1 ?_
  refine lv_iconst (v := (1 : Int32)) hx hb dX7_isItem_9 (by decide) ?_
  refine lv_isub hx hb dX7_isItem_10 ?_
  refine lv_i2l (v := (Int32.toInt64 (g_1 - (1 : Int32)))) hx hb dX7_isItem_11 rfl ?_
  refine ro_S ⟨hx, hb, hml, hown, hts⟩ (k_X7_isIn l dC dI cI cJ (Int32.toInt64 p1) (0 : Int64) (Int32.toInt64 (g_1 - (1 : Int32)))) (va_cwS 3 hts gX7_isItem_X7_isIn rfl rfl rfl (by decide +kernel) ⟨Nat.le_of_ble_eq_true rfl, Nat.le_of_ble_eq_true rfl⟩) hE (hP.sub [] rfl) rfl hl.1 rfl (Nat.le_of_ble_eq_true rfl) dX7_isItem_12 ⟨Nat.zero_le _, Nat.zero_le _⟩ ?_
  exact hret 15 ls _ dX7_isItem_15 (fz_X7_isIn _ _ _) (Option.some.inj hr)
/-! X7_judge -/
def rmX7_judge : Room := { frames := 3, cells := 0, slots := 0, locals := 65 }
set_option maxHeartbeats 4000000 in
set_option maxRecDepth 100000 in
theorem k_X7_judge (l : Launch) (dC : Nat → ClassId) (dI : Nat → Nat → Nat) (cI cJ : ClassId) (a_o : Nat) (a_o_g : Nat) (a_o_kept : Nat) (a_o_was : Nat) (a_o_triangle : Nat) (a_o_text : Nat) (a_o_sort : Nat) (a_o_size : Nat) (a_o_items : Nat) (p0 : Int32) (p1 : Int32) (p2 : Int32) (o_isKept : Int32) (o_takenBy : Int32) (o_fed : Int32) (o_place : Int32) (o_letter : Int32) (o_first : Int32) (o_second : Int32) (o_g : Nat → Int32) (o_triangle : Nat → Int32) (o_sort : Nat → Int32) (o_size : Nat → Int32) (o_items : Nat → Int64) (sz : Nat) (r : Int32 × (Nat → Int32) × Int32) (hr : f_X7_judge p0 p1 p2 o_g o_triangle o_takenBy o_sort o_size o_items = some r) : Met l yX7_judge wsX7_judge rmX7_judge (va_Pc [.ref a_o, .int p0, .int p1, .int p2] (pM (dC, dI) cI cJ [(a_o, .inr (6, [.ref a_o_g, .ref a_o_kept, .ref a_o_was, .int o_isKept, .ref a_o_triangle, .int o_takenBy, .ref a_o_text, .int o_fed, .int o_place, .int o_letter, .int o_first, .int o_second, .ref a_o_sort, .ref a_o_size, .ref a_o_items])), (a_o_g, .inl (cI, 64, .inl o_g)), (a_o_triangle, .inl (cI, 16384, .inl o_triangle)), (a_o_sort, .inl (cI, 6, .inl o_sort)), (a_o_size, .inl (cI, 6, .inl o_size)), (a_o_items, .inl (cJ, 360, .inr (.inl o_items)))] sz)) (qM (some (.int r.1)) (dC, dI) [(a_o, .inr (6, [.ref a_o_g, .ref a_o_kept, .ref a_o_was, .int o_isKept, .ref a_o_triangle, .int r.2.2, .ref a_o_text, .int o_fed, .int o_place, .int o_letter, .int o_first, .int o_second, .ref a_o_sort, .ref a_o_size, .ref a_o_items])), (a_o_g, .inl (cI, 64, .inl o_g)), (a_o_triangle, .inl (cI, 16384, .inl r.2.1)), (a_o_sort, .inl (cI, 6, .inl o_sort)), (a_o_size, .inl (cI, 6, .inl o_size)), (a_o_items, .inl (cJ, 360, .inr (.inl o_items)))] (va_A [(a_o, .inr (6, [.ref a_o_g, .ref a_o_kept, .ref a_o_was, .int o_isKept, .ref a_o_triangle, .int o_takenBy, .ref a_o_text, .int o_fed, .int o_place, .int o_letter, .int o_first, .int o_second, .ref a_o_sort, .ref a_o_size, .ref a_o_items])), (a_o_g, .inl (cI, 64, .inl o_g)), (a_o_triangle, .inl (cI, 16384, .inl o_triangle)), (a_o_sort, .inl (cI, 6, .inl o_sort)), (a_o_size, .inl (cI, 6, .inl o_size)), (a_o_items, .inl (cJ, 360, .inr (.inl o_items)))] sz)) 0 0 (va_A [(a_o, .inr (6, [.ref a_o_g, .ref a_o_kept, .ref a_o_was, .int o_isKept, .ref a_o_triangle, .int o_takenBy, .ref a_o_text, .int o_fed, .int o_place, .int o_letter, .int o_first, .int o_second, .ref a_o_sort, .ref a_o_size, .ref a_o_items])), (a_o_g, .inl (cI, 64, .inl o_g)), (a_o_triangle, .inl (cI, 16384, .inl o_triangle)), (a_o_sort, .inl (cI, 6, .inl o_sort)), (a_o_size, .inl (cI, 6, .inl o_size)), (a_o_items, .inl (cJ, 360, .inr (.inl o_items)))] sz) := by
  refine mu_of (cc := cX7_judge) (maxL := 5) (by decide) rfl (Nat.le_of_ble_eq_true rfl) ?_
  intro p e s m args below meth c Q ls A hx hb hml hown hts hE hP hD hA hrt hlocks hret hl
  have hK := hE.1
  have hS : va_S A s.heap s.heap [] := va_S.rf
  have hl : lv_has ls 5 [(0, .ref a_o), (1, .int p0), (2, .int p1), (3, .int p2)] := hl
  unfold f_X7_judge at hr
  obtain ⟨H, hHe⟩ : ∃ H, H = s.heap := ⟨_, rfl⟩
  obtain ⟨locs, hLe⟩ : ∃ locs : List Loc, locs = [] := ⟨_, rfl⟩
  suffices hgo : va_P (dC, dI) vwCl [(a_o, .inr (6, [.ref a_o_g, .ref a_o_kept, .ref a_o_was, .int o_isKept, .ref a_o_triangle, .int o_takenBy, .ref a_o_text, .int o_fed, .int o_place, .int o_letter, .int o_first, .int o_second, .ref a_o_sort, .ref a_o_size, .ref a_o_items])), (a_o_g, .inl (cI, 64, .inl o_g)), (a_o_triangle, .inl (cI, 16384, .inl o_triangle)), (a_o_sort, .inl (cI, 6, .inl o_sort)), (a_o_size, .inl (cI, 6, .inl o_size)), (a_o_items, .inl (cJ, 360, .inr (.inl o_items)))] H → va_S A s.heap H locs → W p l e rmX7_judge s m args below meth c H locs 0 0 Q (F0 m 0 ls []) by
    subst hHe; subst hLe; exact hgo hP hS
  clear hP hS hHe hLe
  intro hP hS
  have iX7 : ∀ w ∈ wsX70, w ∈ wsX7_judge := memr_ (big := wsX7_judge) wsX70 [34, 35, 36, 37, 38, 39, 40, 41, 42, 43, 44, 45, 46, 47, 48] (by decide +kernel)
  refine lv_iload_n hx hb dX7_judge_0 rfl (lv_at hl 1 rfl) ?_
  refine ro_S ⟨hx, hb, hml, hown, hts⟩ (k_X7_isRow l dC dI cI cJ p0) (va_cwS 1 hts gX7_judge_X7_isRow rfl rfl rfl (by decide +kernel) ⟨Nat.le_of_ble_eq_true rfl, Nat.le_of_ble_eq_true rfl⟩) hE (hP.sub [] rfl) rfl hl.1 rfl (Nat.le_of_ble_eq_true rfl) dX7_judge_1 ⟨Nat.zero_le _, Nat.zero_le _⟩ ?_
  have tT_2 : (((f_X7_isRow p0) = 0) ∨ ((f_X7_isTape p1) = 0)) → W p l e rmX7_judge s m args below meth c H locs 0 0 Q (F0 m 14 ls []) := by
    intro hc_1
    have hr := ite_p hr hc_1
    refine lv_iconst (v := (-1 : Int32)) hx hb dX7_judge_14 (by decide) ?_
    obtain rfl := Option.some.inj hr
    exact hret H locs _ hP hS (fun Qc free hq hf => W.iret hx hb hrt hq hf dX7_judge_15 hlocks)
  have tF_3 : ¬ (((f_X7_isRow p0) = 0) ∨ ((f_X7_isTape p1) = 0)) → W p l e rmX7_judge s m args below meth c H locs 0 0 Q (F0 m 16 ls []) := by
    intro hc_1
    have hr := ite_n hr hc_1
    refine lv_aload_n hx hb dX7_judge_16 rfl (lv_at hl 0 rfl) ?_
    refine va_get (D := (dC, dI)) (ci := 6) (v := .ref a_o_sort) (C := RX7) (T := TX7) (N := 15) hx hb hts iX7 hown hK hP 0 rfl rfl 12 (by decide) (hts (.fieldLink RX7 27 "PascalRowsModel" "sort" "[I") (List.mem_of_getElem? (i := 1) rfl)) (fun _ h9 => h9) rfl dX7_judge_17 ?_
    refine lv_iload_n hx hb dX7_judge_20 rfl (lv_at hl 2 rfl) ?_
    obtain ⟨g_4, eg_4, hg_4, hr⟩ := rd_e hr
    refine va_iald hx hb hK hP 3 0 rfl rfl hg_4 dX7_judge_21 ?_
    refine tp_ eg_4 ?_
    refine lv_iconst (v := (-1 : Int32)) hx hb dX7_judge_22 (by decide) ?_
    refine lv_icmp_eq (tgt := 39) hx hb dX7_judge_23 (by decide) (fun c_5 => ?_) (fun c_5 => ?_)
    · have hr := ite_p hr c_5
      refine lv_iconst (v := (0 : Int32)) hx hb dX7_judge_39 (by decide) ?_
      refine lv_istore (lv' := [(4, .int (0 : Int32)), (0, .ref a_o), (1, .int p0), (2, .int p1), (3, .int p2)]) hx hb dX7_judge_40 hl (by decide) rfl (fun ls hl => ?_)
      have hL42 : ∀ (v1_42 : Int32) (v2_42 : Int32) (v3_42 : Int32) (k_42 : (Nat → Int32) → (Int32) → Option (Int32 × (Nat → Int32) × Int32)) (hk : ∀ (xc_o_triangle_42 : Nat → Int32) (xc_o_takenBy_42 : Int32) (ls : Array Slot), lv_has ls 5 [] → ∀ (H : Heap) (locs : List Loc), va_P (dC, dI) vwCl [(a_o, .inr (6, [.ref a_o_g, .ref a_o_kept, .ref a_o_was, .int o_isKept, .ref a_o_triangle, .int xc_o_takenBy_42, .ref a_o_text, .int o_fed, .int o_place, .int o_letter, .int o_first, .int o_second, .ref a_o_sort, .ref a_o_size, .ref a_o_items])), (a_o_g, .inl (cI, 64, .inl o_g)), (a_o_triangle, .inl (cI, 16384, .inl xc_o_triangle_42)), (a_o_sort, .inl (cI, 6, .inl o_sort)), (a_o_size, .inl (cI, 6, .inl o_size)), (a_o_items, .inl (cJ, 360, .inr (.inl o_items)))] H → va_S A s.heap H locs →  k_42 xc_o_triangle_42 xc_o_takenBy_42 = some r → W p l e rmX7_judge s m args below meth c H locs 0 0 Q (F0 m 107 ls [])) (fuel : Nat) (v4_42 : Int32) (o_triangle_42 : Nat → Int32) (o_takenBy_42 : Int32) (ls : Array Slot), lv_has ls 5 [(0, .ref a_o), (1, .int v1_42), (2, .int v2_42), (3, .int v3_42), (4, .int v4_42)] → ∀ (H : Heap) (locs : List Loc), va_P (dC, dI) vwCl [(a_o, .inr (6, [.ref a_o_g, .ref a_o_kept, .ref a_o_was, .int o_isKept, .ref a_o_triangle, .int o_takenBy_42, .ref a_o_text, .int o_fed, .int o_place, .int o_letter, .int o_first, .int o_second, .ref a_o_sort, .ref a_o_size, .ref a_o_items])), (a_o_g, .inl (cI, 64, .inl o_g)), (a_o_triangle, .inl (cI, 16384, .inl o_triangle_42)), (a_o_sort, .inl (cI, 6, .inl o_sort)), (a_o_size, .inl (cI, 6, .inl o_size)), (a_o_items, .inl (cJ, 360, .inr (.inl o_items)))] H → va_S A s.heap H locs → f_X7_judge_L42 k_42 v1_42 v2_42 v3_42 o_g o_size o_items fuel v4_42 o_triangle_42 o_takenBy_42 = some r → W p l e rmX7_judge s m args below meth c H locs 0 0 Q (F0 m 42 ls []) := by
        intro v1_42 v2_42 v3_42 k_42 hk fuel
        induction fuel with
        | zero =>
          intro v4_42 o_triangle_42 o_takenBy_42 ls hl H locs hP hS hr
          rw [f_X7_judge_L42_z] at hr
          cases hr
        | succ fuel ih =>
          intro v4_42 o_triangle_42 o_takenBy_42 ls hl H locs hP hS hr
          rw [f_X7_judge_L42_s] at hr
          refine lv_iload hx hb dX7_judge_42 (lv_at hl 4 rfl) ?_
          refine lv_iload_n hx hb dX7_judge_44 rfl (lv_at hl 1 rfl) ?_
          refine lv_icmp_gt (tgt := 107) hx hb dX7_judge_45 (by decide) (fun c_6 => ?_) (fun c_6 => ?_)
          · have hr := ite_p hr c_6
            exact hk o_triangle_42 o_takenBy_42 ls (lv_sub hl [] rfl) H locs hP hS hr
          · have hr := ite_n hr c_6
            refine lv_iload_n hx hb dX7_judge_48 rfl (lv_at hl 3 rfl) ?_
            refine lv_if_lt (tgt := 65) hx hb dX7_judge_49 (by decide) (fun c_7 => ?_) (fun c_7 => ?_)
            · have hr := ite_p hr c_7
              refine lv_sipush (v := (200 : Int32)) hx hb dX7_judge_65 (by decide) ?_
              refine lv_iload hx hb dX7_judge_68 (lv_at hl 4 rfl) ?_
              refine lv_iadd hx hb dX7_judge_70 ?_
              obtain rfl := Option.some.inj hr
              exact hret H locs _ hP hS (fun Qc free hq hf => W.iret hx hb hrt hq hf dX7_judge_71 hlocks)
            · have hr := ite_n hr c_7
              refine lv_iload hx hb dX7_judge_52 (lv_at hl 4 rfl) ?_
              refine lv_aload_n hx hb dX7_judge_54 rfl (lv_at hl 0 rfl) ?_
              refine va_get (D := (dC, dI)) (ci := 6) (v := .ref a_o_size) (C := RX7) (T := TX7) (N := 15) hx hb hts iX7 hown hK hP 0 rfl rfl 13 (by decide) (hts (.fieldLink RX7 30 "PascalRowsModel" "size" "[I") (List.mem_of_getElem? (i := 2) rfl)) (fun _ h9 => h9) rfl dX7_judge_55 ?_
              refine lv_iload_n hx hb dX7_judge_58 rfl (lv_at hl 2 rfl) ?_
              obtain ⟨g_8, eg_8, hg_8, hr⟩ := rd_e hr
              refine va_iald hx hb hK hP 4 0 rfl rfl hg_8 dX7_judge_59 ?_
              refine tp_ eg_8 ?_
              refine lv_iload_n hx hb dX7_judge_60 rfl (lv_at hl 3 rfl) ?_
              refine lv_isub hx hb dX7_judge_61 ?_
              refine lv_icmp_lt (tgt := 72) hx hb dX7_judge_62 (by decide) (fun c_9 => ?_) (fun c_9 => ?_)
              · have hr := ite_p hr c_9
                refine lv_aload_n hx hb dX7_judge_72 rfl (lv_at hl 0 rfl) ?_
                refine va_get (D := (dC, dI)) (ci := 6) (v := .ref a_o_items) (C := RX7) (T := TX7) (N := 15) hx hb hts iX7 hown hK hP 0 rfl rfl 14 (by decide) (hts (.fieldLink RX7 33 "PascalRowsModel" "items" "[J") (List.mem_of_getElem? (i := 3) rfl)) (fun _ h9 => h9) rfl dX7_judge_73 ?_
                refine lv_bipush (v := (60 : Int32)) hx hb dX7_judge_76 (by decide) ?_
                refine lv_iload_n hx hb dX7_judge_78 rfl (lv_at hl 2 rfl) ?_
                refine lv_imul hx hb dX7_judge_79 ?_
                refine lv_iload_n hx hb dX7_judge_80 rfl (lv_at hl 3 rfl) ?_
                refine lv_iadd hx hb dX7_judge_81 ?_
                refine lv_iload hx hb dX7_judge_82 (lv_at hl 4 rfl) ?_
                refine lv_iadd hx hb dX7_judge_84 ?_
                obtain ⟨g_10, eg_10, hg_10, hr⟩ := rd_e hr
                refine va_lald hx hb hK hP 5 1 rfl rfl hg_10 dX7_judge_85 ?_
                refine tpl_ eg_10 ?_
                refine lv_aload_n hx hb dX7_judge_86 rfl (lv_at hl 0 rfl) ?_
                refine lv_iload_n hx hb dX7_judge_87 rfl (lv_at hl 1 rfl) ?_
                refine lv_iload hx hb dX7_judge_88 (lv_at hl 4 rfl) ?_
                obtain ⟨u_11, hu_11, hr⟩ := bd_e hr
                refine mu_V ⟨hx, hb, hml, hown, hts⟩ (k_X7_remainder l dC dI cI cJ a_o a_o_g a_o_kept a_o_was a_o_triangle a_o_text a_o_sort a_o_size a_o_items v1_42 v4_42 o_isKept o_takenBy_42 o_fed o_place o_letter o_first o_second o_g o_triangle_42 H.size u_11 hu_11) (cwV 2 hts gX7_judge_X7_remainder rfl rfl rfl (by decide +kernel) ⟨Nat.le_of_ble_eq_true rfl, Nat.le_of_ble_eq_true rfl⟩) hE 0 rfl rfl rfl rfl hl.1 rfl (Nat.le_of_ble_eq_true rfl) dX7_judge_90 ⟨Nat.zero_le _, Nat.zero_le _⟩ hP (hD.fst rfl) hS hA [0, 1, 2] [3, 4, 5] [3, 4, 5, 0, 1, 2] rfl rfl (by decide) (by decide) rfl (by decide) (W1 := [(a_o, .inr (6, [.ref a_o_g, .ref a_o_kept, .ref a_o_was, .int o_isKept, .ref a_o_triangle, .int u_11.2.2, .ref a_o_text, .int o_fed, .int o_place, .int o_letter, .int o_first, .int o_second, .ref a_o_sort, .ref a_o_size, .ref a_o_items])), (a_o_g, .inl (cI, 64, .inl o_g)), (a_o_triangle, .inl (cI, 16384, .inl u_11.2.1)), (a_o_sort, .inl (cI, 6, .inl o_sort)), (a_o_size, .inl (cI, 6, .inl o_size)), (a_o_items, .inl (cJ, 360, .inr (.inl o_items)))]) rfl (fun H locs hP hS => W.eq (g2 := F0 m 93 ls [.int u_11.1, .long g_10]) rfl ?_)
                refine lv_i2l (v := (Int32.toInt64 u_11.1)) hx hb dX7_judge_93 rfl ?_
                refine W.lcmp hx hb dX7_judge_94 ?_
                refine lv_if_eq (tgt := 101) hx hb dX7_judge_95 (by decide) (fun c_12 => ?_) (fun c_12 => ?_)
                · have hr := ite_p hr c_12
                  refine lv_iinc (v := (v4_42 + (1 : Int32))) (lv' := [(4, .int (v4_42 + (1 : Int32))), (0, .ref a_o), (1, .int v1_42), (2, .int v2_42), (3, .int v3_42)]) hx hb dX7_judge_101 hl (k := 4) rfl (congrArg (fun z => v4_42 + z) (by decide)) (by decide) rfl (fun ls hl => ?_)
                  refine lv_goto (tgt := 42) hx hb dX7_judge_104 (by decide) ?_
                  exact ih (v4_42 + (1 : Int32)) u_11.2.1 u_11.2.2 ls (lv_sub hl [1, 2, 3, 4, 0] rfl) H locs hP hS hr
                · have hr := ite_n hr c_12
                  refine lv_iload hx hb dX7_judge_98 (lv_at hl 4 rfl) ?_
                  obtain rfl := Option.some.inj hr
                  exact hret H locs _ hP hS (fun Qc free hq hf => W.iret hx hb hrt hq hf dX7_judge_100 hlocks)
              · have hr := ite_n hr c_9
                refine lv_sipush (v := (200 : Int32)) hx hb dX7_judge_65 (by decide) ?_
                refine lv_iload hx hb dX7_judge_68 (lv_at hl 4 rfl) ?_
                refine lv_iadd hx hb dX7_judge_70 ?_
                obtain rfl := Option.some.inj hr
                exact hret H locs _ hP hS (fun Qc free hq hf => W.iret hx hb hrt hq hf dX7_judge_71 hlocks)
      refine hL42 p0 p1 p2 _ (fun xc_o_triangle_42 xc_o_takenBy_42 ls hl H locs hP hS hr => ?_) 5000 (0 : Int32) o_triangle o_takenBy ls (lv_sub hl [1, 2, 3, 4, 0] rfl) H locs hP hS hr
      refine lv_bipush (v := (-5 : Int32)) hx hb dX7_judge_107 (by decide) ?_
      obtain rfl := Option.some.inj hr
      exact hret H locs _ hP hS (fun Qc free hq hf => W.iret hx hb hrt hq hf dX7_judge_109 hlocks)
    · have hr := ite_n hr c_5
      refine lv_aload_n hx hb dX7_judge_26 rfl (lv_at hl 0 rfl) ?_
      refine va_get (D := (dC, dI)) (ci := 6) (v := .ref a_o_sort) (C := RX7) (T := TX7) (N := 15) hx hb hts iX7 hown hK hP 0 rfl rfl 12 (by decide) (hts (.fieldLink RX7 27 "PascalRowsModel" "sort" "[I") (List.mem_of_getElem? (i := 1) rfl)) (fun _ h9 => h9) rfl dX7_judge_27 ?_
      refine lv_iload_n hx hb dX7_judge_30 rfl (lv_at hl 2 rfl) ?_
      obtain ⟨g_13, eg_13, hg_13, hr⟩ := rd_e hr
      refine va_iald hx hb hK hP 3 0 rfl rfl hg_13 dX7_judge_31 ?_
      refine tp_ eg_13 ?_
      refine lv_iconst (v := (1 : Int32)) hx hb dX7_judge_32 (by decide) ?_
      refine lv_icmp_eq (tgt := 39) hx hb dX7_judge_33 (by decide) (fun c_14 => ?_) (fun c_14 => ?_)
      · have hr := ite_p hr c_14
        refine lv_iconst (v := (0 : Int32)) hx hb dX7_judge_39 (by decide) ?_
        refine lv_istore (lv' := [(4, .int (0 : Int32)), (0, .ref a_o), (1, .int p0), (2, .int p1), (3, .int p2)]) hx hb dX7_judge_40 hl (by decide) rfl (fun ls hl => ?_)
        have hL42 : ∀ (v1_42 : Int32) (v2_42 : Int32) (v3_42 : Int32) (k_42 : (Nat → Int32) → (Int32) → Option (Int32 × (Nat → Int32) × Int32)) (hk : ∀ (xc_o_triangle_42 : Nat → Int32) (xc_o_takenBy_42 : Int32) (ls : Array Slot), lv_has ls 5 [] → ∀ (H : Heap) (locs : List Loc), va_P (dC, dI) vwCl [(a_o, .inr (6, [.ref a_o_g, .ref a_o_kept, .ref a_o_was, .int o_isKept, .ref a_o_triangle, .int xc_o_takenBy_42, .ref a_o_text, .int o_fed, .int o_place, .int o_letter, .int o_first, .int o_second, .ref a_o_sort, .ref a_o_size, .ref a_o_items])), (a_o_g, .inl (cI, 64, .inl o_g)), (a_o_triangle, .inl (cI, 16384, .inl xc_o_triangle_42)), (a_o_sort, .inl (cI, 6, .inl o_sort)), (a_o_size, .inl (cI, 6, .inl o_size)), (a_o_items, .inl (cJ, 360, .inr (.inl o_items)))] H → va_S A s.heap H locs →  k_42 xc_o_triangle_42 xc_o_takenBy_42 = some r → W p l e rmX7_judge s m args below meth c H locs 0 0 Q (F0 m 107 ls [])) (fuel : Nat) (v4_42 : Int32) (o_triangle_42 : Nat → Int32) (o_takenBy_42 : Int32) (ls : Array Slot), lv_has ls 5 [(0, .ref a_o), (1, .int v1_42), (2, .int v2_42), (3, .int v3_42), (4, .int v4_42)] → ∀ (H : Heap) (locs : List Loc), va_P (dC, dI) vwCl [(a_o, .inr (6, [.ref a_o_g, .ref a_o_kept, .ref a_o_was, .int o_isKept, .ref a_o_triangle, .int o_takenBy_42, .ref a_o_text, .int o_fed, .int o_place, .int o_letter, .int o_first, .int o_second, .ref a_o_sort, .ref a_o_size, .ref a_o_items])), (a_o_g, .inl (cI, 64, .inl o_g)), (a_o_triangle, .inl (cI, 16384, .inl o_triangle_42)), (a_o_sort, .inl (cI, 6, .inl o_sort)), (a_o_size, .inl (cI, 6, .inl o_size)), (a_o_items, .inl (cJ, 360, .inr (.inl o_items)))] H → va_S A s.heap H locs → f_X7_judge_L42 k_42 v1_42 v2_42 v3_42 o_g o_size o_items fuel v4_42 o_triangle_42 o_takenBy_42 = some r → W p l e rmX7_judge s m args below meth c H locs 0 0 Q (F0 m 42 ls []) := by
          intro v1_42 v2_42 v3_42 k_42 hk fuel
          induction fuel with
          | zero =>
            intro v4_42 o_triangle_42 o_takenBy_42 ls hl H locs hP hS hr
            rw [f_X7_judge_L42_z] at hr
            cases hr
          | succ fuel ih =>
            intro v4_42 o_triangle_42 o_takenBy_42 ls hl H locs hP hS hr
            rw [f_X7_judge_L42_s] at hr
            refine lv_iload hx hb dX7_judge_42 (lv_at hl 4 rfl) ?_
            refine lv_iload_n hx hb dX7_judge_44 rfl (lv_at hl 1 rfl) ?_
            refine lv_icmp_gt (tgt := 107) hx hb dX7_judge_45 (by decide) (fun c_15 => ?_) (fun c_15 => ?_)
            · have hr := ite_p hr c_15
              exact hk o_triangle_42 o_takenBy_42 ls (lv_sub hl [] rfl) H locs hP hS hr
            · have hr := ite_n hr c_15
              refine lv_iload_n hx hb dX7_judge_48 rfl (lv_at hl 3 rfl) ?_
              refine lv_if_lt (tgt := 65) hx hb dX7_judge_49 (by decide) (fun c_16 => ?_) (fun c_16 => ?_)
              · have hr := ite_p hr c_16
                refine lv_sipush (v := (200 : Int32)) hx hb dX7_judge_65 (by decide) ?_
                refine lv_iload hx hb dX7_judge_68 (lv_at hl 4 rfl) ?_
                refine lv_iadd hx hb dX7_judge_70 ?_
                obtain rfl := Option.some.inj hr
                exact hret H locs _ hP hS (fun Qc free hq hf => W.iret hx hb hrt hq hf dX7_judge_71 hlocks)
              · have hr := ite_n hr c_16
                refine lv_iload hx hb dX7_judge_52 (lv_at hl 4 rfl) ?_
                refine lv_aload_n hx hb dX7_judge_54 rfl (lv_at hl 0 rfl) ?_
                refine va_get (D := (dC, dI)) (ci := 6) (v := .ref a_o_size) (C := RX7) (T := TX7) (N := 15) hx hb hts iX7 hown hK hP 0 rfl rfl 13 (by decide) (hts (.fieldLink RX7 30 "PascalRowsModel" "size" "[I") (List.mem_of_getElem? (i := 2) rfl)) (fun _ h9 => h9) rfl dX7_judge_55 ?_
                refine lv_iload_n hx hb dX7_judge_58 rfl (lv_at hl 2 rfl) ?_
                obtain ⟨g_17, eg_17, hg_17, hr⟩ := rd_e hr
                refine va_iald hx hb hK hP 4 0 rfl rfl hg_17 dX7_judge_59 ?_
                refine tp_ eg_17 ?_
                refine lv_iload_n hx hb dX7_judge_60 rfl (lv_at hl 3 rfl) ?_
                refine lv_isub hx hb dX7_judge_61 ?_
                refine lv_icmp_lt (tgt := 72) hx hb dX7_judge_62 (by decide) (fun c_18 => ?_) (fun c_18 => ?_)
                · have hr := ite_p hr c_18
                  refine lv_aload_n hx hb dX7_judge_72 rfl (lv_at hl 0 rfl) ?_
                  refine va_get (D := (dC, dI)) (ci := 6) (v := .ref a_o_items) (C := RX7) (T := TX7) (N := 15) hx hb hts iX7 hown hK hP 0 rfl rfl 14 (by decide) (hts (.fieldLink RX7 33 "PascalRowsModel" "items" "[J") (List.mem_of_getElem? (i := 3) rfl)) (fun _ h9 => h9) rfl dX7_judge_73 ?_
                  refine lv_bipush (v := (60 : Int32)) hx hb dX7_judge_76 (by decide) ?_
                  refine lv_iload_n hx hb dX7_judge_78 rfl (lv_at hl 2 rfl) ?_
                  refine lv_imul hx hb dX7_judge_79 ?_
                  refine lv_iload_n hx hb dX7_judge_80 rfl (lv_at hl 3 rfl) ?_
                  refine lv_iadd hx hb dX7_judge_81 ?_
                  refine lv_iload hx hb dX7_judge_82 (lv_at hl 4 rfl) ?_
                  refine lv_iadd hx hb dX7_judge_84 ?_
                  obtain ⟨g_19, eg_19, hg_19, hr⟩ := rd_e hr
                  refine va_lald hx hb hK hP 5 1 rfl rfl hg_19 dX7_judge_85 ?_
                  refine tpl_ eg_19 ?_
                  refine lv_aload_n hx hb dX7_judge_86 rfl (lv_at hl 0 rfl) ?_
                  refine lv_iload_n hx hb dX7_judge_87 rfl (lv_at hl 1 rfl) ?_
                  refine lv_iload hx hb dX7_judge_88 (lv_at hl 4 rfl) ?_
                  obtain ⟨u_20, hu_20, hr⟩ := bd_e hr
                  refine mu_V ⟨hx, hb, hml, hown, hts⟩ (k_X7_remainder l dC dI cI cJ a_o a_o_g a_o_kept a_o_was a_o_triangle a_o_text a_o_sort a_o_size a_o_items v1_42 v4_42 o_isKept o_takenBy_42 o_fed o_place o_letter o_first o_second o_g o_triangle_42 H.size u_20 hu_20) (cwV 2 hts gX7_judge_X7_remainder rfl rfl rfl (by decide +kernel) ⟨Nat.le_of_ble_eq_true rfl, Nat.le_of_ble_eq_true rfl⟩) hE 0 rfl rfl rfl rfl hl.1 rfl (Nat.le_of_ble_eq_true rfl) dX7_judge_90 ⟨Nat.zero_le _, Nat.zero_le _⟩ hP (hD.fst rfl) hS hA [0, 1, 2] [3, 4, 5] [3, 4, 5, 0, 1, 2] rfl rfl (by decide) (by decide) rfl (by decide) (W1 := [(a_o, .inr (6, [.ref a_o_g, .ref a_o_kept, .ref a_o_was, .int o_isKept, .ref a_o_triangle, .int u_20.2.2, .ref a_o_text, .int o_fed, .int o_place, .int o_letter, .int o_first, .int o_second, .ref a_o_sort, .ref a_o_size, .ref a_o_items])), (a_o_g, .inl (cI, 64, .inl o_g)), (a_o_triangle, .inl (cI, 16384, .inl u_20.2.1)), (a_o_sort, .inl (cI, 6, .inl o_sort)), (a_o_size, .inl (cI, 6, .inl o_size)), (a_o_items, .inl (cJ, 360, .inr (.inl o_items)))]) rfl (fun H locs hP hS => W.eq (g2 := F0 m 93 ls [.int u_20.1, .long g_19]) rfl ?_)
                  refine lv_i2l (v := (Int32.toInt64 u_20.1)) hx hb dX7_judge_93 rfl ?_
                  refine W.lcmp hx hb dX7_judge_94 ?_
                  refine lv_if_eq (tgt := 101) hx hb dX7_judge_95 (by decide) (fun c_21 => ?_) (fun c_21 => ?_)
                  · have hr := ite_p hr c_21
                    refine lv_iinc (v := (v4_42 + (1 : Int32))) (lv' := [(4, .int (v4_42 + (1 : Int32))), (0, .ref a_o), (1, .int v1_42), (2, .int v2_42), (3, .int v3_42)]) hx hb dX7_judge_101 hl (k := 4) rfl (congrArg (fun z => v4_42 + z) (by decide)) (by decide) rfl (fun ls hl => ?_)
                    refine lv_goto (tgt := 42) hx hb dX7_judge_104 (by decide) ?_
                    exact ih (v4_42 + (1 : Int32)) u_20.2.1 u_20.2.2 ls (lv_sub hl [1, 2, 3, 4, 0] rfl) H locs hP hS hr
                  · have hr := ite_n hr c_21
                    refine lv_iload hx hb dX7_judge_98 (lv_at hl 4 rfl) ?_
                    obtain rfl := Option.some.inj hr
                    exact hret H locs _ hP hS (fun Qc free hq hf => W.iret hx hb hrt hq hf dX7_judge_100 hlocks)
                · have hr := ite_n hr c_18
                  refine lv_sipush (v := (200 : Int32)) hx hb dX7_judge_65 (by decide) ?_
                  refine lv_iload hx hb dX7_judge_68 (lv_at hl 4 rfl) ?_
                  refine lv_iadd hx hb dX7_judge_70 ?_
                  obtain rfl := Option.some.inj hr
                  exact hret H locs _ hP hS (fun Qc free hq hf => W.iret hx hb hrt hq hf dX7_judge_71 hlocks)
        refine hL42 p0 p1 p2 _ (fun xc_o_triangle_42 xc_o_takenBy_42 ls hl H locs hP hS hr => ?_) 5000 (0 : Int32) o_triangle o_takenBy ls (lv_sub hl [1, 2, 3, 4, 0] rfl) H locs hP hS hr
        refine lv_bipush (v := (-5 : Int32)) hx hb dX7_judge_107 (by decide) ?_
        obtain rfl := Option.some.inj hr
        exact hret H locs _ hP hS (fun Qc free hq hf => W.iret hx hb hrt hq hf dX7_judge_109 hlocks)
      · have hr := ite_n hr c_14
        refine lv_bipush (v := (-12 : Int32)) hx hb dX7_judge_36 (by decide) ?_
        obtain rfl := Option.some.inj hr
        exact hret H locs _ hP hS (fun Qc free hq hf => W.iret hx hb hrt hq hf dX7_judge_38 hlocks)
  refine lv_if_eq (tgt := 14) hx hb dX7_judge_4 (by decide) (fun c_22 => ?_) (fun c_22 => ?_)
  · exact tT_2 (Or.inl c_22)
  · refine lv_iload_n hx hb dX7_judge_7 rfl (lv_at hl 2 rfl) ?_
    refine ro_S ⟨hx, hb, hml, hown, hts⟩ (k_X7_isTape l dC dI cI cJ p1) (va_cwS 1 hts gX7_judge_X7_isTape rfl rfl rfl (by decide +kernel) ⟨Nat.le_of_ble_eq_true rfl, Nat.le_of_ble_eq_true rfl⟩) hE (hP.sub [] rfl) rfl hl.1 rfl (Nat.le_of_ble_eq_true rfl) dX7_judge_8 ⟨Nat.zero_le _, Nat.zero_le _⟩ ?_
    refine lv_if_ne (tgt := 16) hx hb dX7_judge_11 (by decide) (fun c_23 => ?_) (fun c_23 => ?_)
    · exact tF_3 (fun h => h.elim c_22 c_23)
    · exact tT_2 (Or.inr c_23)
/-! X7_image -/
def rmX7_image : Room := { frames := 2, cells := 0, slots := 0, locals := 43 }
set_option maxHeartbeats 4000000 in
set_option maxRecDepth 100000 in
theorem k_X7_image (l : Launch) (dC : Nat → ClassId) (dI : Nat → Nat → Nat) (cI cJ : ClassId) (a_o : Nat) (a_o_g : Nat) (a_o_kept : Nat) (a_o_was : Nat) (a_o_triangle : Nat) (a_o_text : Nat) (a_o_sort : Nat) (a_o_size : Nat) (a_o_items : Nat) (o_isKept : Int32) (o_takenBy : Int32) (o_fed : Int32) (o_place : Int32) (o_letter : Int32) (o_first : Int32) (o_second : Int32) (o_g : Nat → Int32) (o_kept : Nat → Int32) (sz : Nat) (r : Int32 × (Nat → Int32) × Int32) (hr : f_X7_image o_g o_kept o_isKept = some r) : Met l yX7_image wsX7_image rmX7_image (va_Pc [.ref a_o] (pM (dC, dI) cI cJ [(a_o, .inr (6, [.ref a_o_g, .ref a_o_kept, .ref a_o_was, .int o_isKept, .ref a_o_triangle, .int o_takenBy, .ref a_o_text, .int o_fed, .int o_place, .int o_letter, .int o_first, .int o_second, .ref a_o_sort, .ref a_o_size, .ref a_o_items])), (a_o_g, .inl (cI, 64, .inl o_g)), (a_o_kept, .inl (cI, 64, .inl o_kept))] sz)) (qM (some (.int r.1)) (dC, dI) [(a_o, .inr (6, [.ref a_o_g, .ref a_o_kept, .ref a_o_was, .int r.2.2, .ref a_o_triangle, .int o_takenBy, .ref a_o_text, .int o_fed, .int o_place, .int o_letter, .int o_first, .int o_second, .ref a_o_sort, .ref a_o_size, .ref a_o_items])), (a_o_g, .inl (cI, 64, .inl o_g)), (a_o_kept, .inl (cI, 64, .inl r.2.1))] (va_A [(a_o, .inr (6, [.ref a_o_g, .ref a_o_kept, .ref a_o_was, .int o_isKept, .ref a_o_triangle, .int o_takenBy, .ref a_o_text, .int o_fed, .int o_place, .int o_letter, .int o_first, .int o_second, .ref a_o_sort, .ref a_o_size, .ref a_o_items])), (a_o_g, .inl (cI, 64, .inl o_g)), (a_o_kept, .inl (cI, 64, .inl o_kept))] sz)) 0 0 (va_A [(a_o, .inr (6, [.ref a_o_g, .ref a_o_kept, .ref a_o_was, .int o_isKept, .ref a_o_triangle, .int o_takenBy, .ref a_o_text, .int o_fed, .int o_place, .int o_letter, .int o_first, .int o_second, .ref a_o_sort, .ref a_o_size, .ref a_o_items])), (a_o_g, .inl (cI, 64, .inl o_g)), (a_o_kept, .inl (cI, 64, .inl o_kept))] sz) := by
  refine mu_of (cc := cX7_image) (maxL := 1) (by decide) rfl (Nat.le_of_ble_eq_true rfl) ?_
  intro p e s m args below meth c Q ls A hx hb hml hown hts hE hP hD hA hrt hlocks hret hl
  have hK := hE.1
  have hS : va_S A s.heap s.heap [] := va_S.rf
  have hl : lv_has ls 1 [(0, .ref a_o)] := hl
  unfold f_X7_image at hr
  obtain ⟨H, hHe⟩ : ∃ H, H = s.heap := ⟨_, rfl⟩
  obtain ⟨locs, hLe⟩ : ∃ locs : List Loc, locs = [] := ⟨_, rfl⟩
  suffices hgo : va_P (dC, dI) vwCl [(a_o, .inr (6, [.ref a_o_g, .ref a_o_kept, .ref a_o_was, .int o_isKept, .ref a_o_triangle, .int o_takenBy, .ref a_o_text, .int o_fed, .int o_place, .int o_letter, .int o_first, .int o_second, .ref a_o_sort, .ref a_o_size, .ref a_o_items])), (a_o_g, .inl (cI, 64, .inl o_g)), (a_o_kept, .inl (cI, 64, .inl o_kept))] H → va_S A s.heap H locs → W p l e rmX7_image s m args below meth c H locs 0 0 Q (F0 m 0 ls []) by
    subst hHe; subst hLe; exact hgo hP hS
  clear hP hS hHe hLe
  intro hP hS
  have iX7 : ∀ w ∈ wsX70, w ∈ wsX7_image := memr_ (big := wsX7_image) wsX70 [15, 16, 17, 18, 19, 20, 21, 22, 23, 24, 25, 26, 27, 28, 29] (by decide +kernel)
  refine lv_aload_n hx hb dX7_image_0 rfl (lv_at hl 0 rfl) ?_
  refine va_get (D := (dC, dI)) (ci := 6) (v := .ref a_o_g) (C := RX7) (T := TX7) (N := 15) hx hb hts iX7 hown hK hP 0 rfl rfl 0 (by decide) (hts (.fieldLink RX7 11 "PascalRowsModel" "g" "[I") (List.mem_of_getElem? (i := 1) rfl)) (fun _ h9 => h9) rfl dX7_image_1 ?_
  refine lv_aload_n hx hb dX7_image_4 rfl (lv_at hl 0 rfl) ?_
  refine va_get (D := (dC, dI)) (ci := 6) (v := .ref a_o_kept) (C := RX7) (T := TX7) (N := 15) hx hb hts iX7 hown hK hP 0 rfl rfl 1 (by decide) (hts (.fieldLink RX7 15 "PascalRowsModel" "kept" "[I") (List.mem_of_getElem? (i := 2) rfl)) (fun _ h9 => h9) rfl dX7_image_5 ?_
  obtain ⟨u_1, hu_1, hr⟩ := bd_e hr
  refine mu_S ⟨hx, hb, hml, hown, hts⟩ (k_X7_copies l dC dI cI cJ a_o_g a_o_kept 64 64 o_g o_kept H.size u_1 hu_1) (va_cwS 2 hts gX7_image_X7_copies rfl rfl rfl (by decide +kernel) ⟨Nat.le_of_ble_eq_true rfl, Nat.le_of_ble_eq_true rfl⟩) hE rfl hl.1 rfl (Nat.le_of_ble_eq_true rfl) dX7_image_8 ⟨Nat.zero_le _, Nat.zero_le _⟩ hP (hD.fst rfl) hS hA [1, 2] [0] [0, 1, 2] rfl rfl (by decide) (by decide) rfl (by decide) (W1 := [(a_o, .inr (6, [.ref a_o_g, .ref a_o_kept, .ref a_o_was, .int o_isKept, .ref a_o_triangle, .int o_takenBy, .ref a_o_text, .int o_fed, .int o_place, .int o_letter, .int o_first, .int o_second, .ref a_o_sort, .ref a_o_size, .ref a_o_items])), (a_o_g, .inl (cI, 64, .inl o_g)), (a_o_kept, .inl (cI, 64, .inl u_1))]) rfl (fun H locs hP hS => W.eq (g2 := F0 m 11 ls []) rfl ?_)
  refine lv_aload_n hx hb dX7_image_11 rfl (lv_at hl 0 rfl) ?_
  refine lv_iconst (v := (1 : Int32)) hx hb dX7_image_12 (by decide) ?_
  refine va_put (D := (dC, dI)) (ci := 6) (v := .int (1 : Int32)) (ty := .boolean) (C := RX7) (T := TX7) (N := 15) hx hb hts iX7 tyX7 tyX7_ok nmX7 hown hK hP (hD.fst rfl) hS 0 rfl rfl 3 (by decide) (hts (.fieldLink RX7 209 "PascalRowsModel" "isKept" "Z") (List.mem_of_getElem? (i := 3) rfl)) (fun _ h9 => h9) rfl (by decide +kernel) rfl rfl (Nat.le_of_ble_eq_true rfl) dX7_image_13 (fun H locs hP _ hS => ?_)
  have hP : va_P (dC, dI) vwCl [(a_o, .inr (6, [.ref a_o_g, .ref a_o_kept, .ref a_o_was, .int (1 : Int32), .ref a_o_triangle, .int o_takenBy, .ref a_o_text, .int o_fed, .int o_place, .int o_letter, .int o_first, .int o_second, .ref a_o_sort, .ref a_o_size, .ref a_o_items])), (a_o_g, .inl (cI, 64, .inl o_g)), (a_o_kept, .inl (cI, 64, .inl u_1))] H := hP
  refine lv_aload_n hx hb dX7_image_16 rfl (lv_at hl 0 rfl) ?_
  obtain ⟨u_2, hu_2, hr⟩ := bd_e hr
  refine ro_V ⟨hx, hb, hml, hown, hts⟩ (k_X7_modulus l dC dI cI cJ a_o a_o_g a_o_kept a_o_was a_o_triangle a_o_text a_o_sort a_o_size a_o_items (1 : Int32) o_takenBy o_fed o_place o_letter o_first o_second o_g u_2 hu_2) (cwV 0 hts gX7_image_X7_modulus rfl rfl rfl (by decide +kernel) ⟨Nat.le_of_ble_eq_true rfl, Nat.le_of_ble_eq_true rfl⟩) hE hP 0 rfl rfl rfl (hP.sub [0, 1] rfl) rfl hl.1 rfl (Nat.le_of_ble_eq_true rfl) dX7_image_17 ⟨Nat.zero_le _, Nat.zero_le _⟩ ?_
  obtain rfl := Option.some.inj hr
  exact hret H locs _ hP hS (fun Qc free hq hf => W.iret hx hb hrt hq hf dX7_image_20 hlocks)
/-! X7_undo -/
def rmX7_undo : Room := { frames := 2, cells := 0, slots := 0, locals := 43 }
set_option maxHeartbeats 4000000 in
set_option maxRecDepth 100000 in
theorem k_X7_undo (l : Launch) (dC : Nat → ClassId) (dI : Nat → Nat → Nat) (cI cJ : ClassId) (a_o : Nat) (a_o_g : Nat) (a_o_kept : Nat) (a_o_was : Nat) (a_o_triangle : Nat) (a_o_text : Nat) (a_o_sort : Nat) (a_o_size : Nat) (a_o_items : Nat) (o_isKept : Int32) (o_takenBy : Int32) (o_fed : Int32) (o_place : Int32) (o_letter : Int32) (o_first : Int32) (o_second : Int32) (o_g : Nat → Int32) (o_kept : Nat → Int32) (sz : Nat) (r : Int32 × (Nat → Int32)) (hr : f_X7_undo o_g o_kept o_isKept = some r) : Met l yX7_undo wsX7_undo rmX7_undo (va_Pc [.ref a_o] (pM (dC, dI) cI cJ [(a_o, .inr (6, [.ref a_o_g, .ref a_o_kept, .ref a_o_was, .int o_isKept, .ref a_o_triangle, .int o_takenBy, .ref a_o_text, .int o_fed, .int o_place, .int o_letter, .int o_first, .int o_second, .ref a_o_sort, .ref a_o_size, .ref a_o_items])), (a_o_g, .inl (cI, 64, .inl o_g)), (a_o_kept, .inl (cI, 64, .inl o_kept))] sz)) (qM (some (.int r.1)) (dC, dI) [(a_o, .inr (6, [.ref a_o_g, .ref a_o_kept, .ref a_o_was, .int o_isKept, .ref a_o_triangle, .int o_takenBy, .ref a_o_text, .int o_fed, .int o_place, .int o_letter, .int o_first, .int o_second, .ref a_o_sort, .ref a_o_size, .ref a_o_items])), (a_o_g, .inl (cI, 64, .inl r.2)), (a_o_kept, .inl (cI, 64, .inl o_kept))] (va_A [(a_o, .inr (6, [.ref a_o_g, .ref a_o_kept, .ref a_o_was, .int o_isKept, .ref a_o_triangle, .int o_takenBy, .ref a_o_text, .int o_fed, .int o_place, .int o_letter, .int o_first, .int o_second, .ref a_o_sort, .ref a_o_size, .ref a_o_items])), (a_o_g, .inl (cI, 64, .inl o_g)), (a_o_kept, .inl (cI, 64, .inl o_kept))] sz)) 0 0 (va_A [(a_o, .inr (6, [.ref a_o_g, .ref a_o_kept, .ref a_o_was, .int o_isKept, .ref a_o_triangle, .int o_takenBy, .ref a_o_text, .int o_fed, .int o_place, .int o_letter, .int o_first, .int o_second, .ref a_o_sort, .ref a_o_size, .ref a_o_items])), (a_o_g, .inl (cI, 64, .inl o_g)), (a_o_kept, .inl (cI, 64, .inl o_kept))] sz) := by
  refine mu_of (cc := cX7_undo) (maxL := 1) (by decide) rfl (Nat.le_of_ble_eq_true rfl) ?_
  intro p e s m args below meth c Q ls A hx hb hml hown hts hE hP hD hA hrt hlocks hret hl
  have hK := hE.1
  have hS : va_S A s.heap s.heap [] := va_S.rf
  have hl : lv_has ls 1 [(0, .ref a_o)] := hl
  unfold f_X7_undo at hr
  obtain ⟨H, hHe⟩ : ∃ H, H = s.heap := ⟨_, rfl⟩
  obtain ⟨locs, hLe⟩ : ∃ locs : List Loc, locs = [] := ⟨_, rfl⟩
  suffices hgo : va_P (dC, dI) vwCl [(a_o, .inr (6, [.ref a_o_g, .ref a_o_kept, .ref a_o_was, .int o_isKept, .ref a_o_triangle, .int o_takenBy, .ref a_o_text, .int o_fed, .int o_place, .int o_letter, .int o_first, .int o_second, .ref a_o_sort, .ref a_o_size, .ref a_o_items])), (a_o_g, .inl (cI, 64, .inl o_g)), (a_o_kept, .inl (cI, 64, .inl o_kept))] H → va_S A s.heap H locs → W p l e rmX7_undo s m args below meth c H locs 0 0 Q (F0 m 0 ls []) by
    subst hHe; subst hLe; exact hgo hP hS
  clear hP hS hHe hLe
  intro hP hS
  have iX7 : ∀ w ∈ wsX70, w ∈ wsX7_undo := memr_ (big := wsX7_undo) wsX70 [15, 16, 17, 18, 19, 20, 21, 22, 23, 24, 25, 26, 27, 28, 29] (by decide +kernel)
  refine lv_aload_n hx hb dX7_undo_0 rfl (lv_at hl 0 rfl) ?_
  refine va_get (D := (dC, dI)) (ci := 6) (v := .int o_isKept) (C := RX7) (T := TX7) (N := 15) hx hb hts iX7 hown hK hP 0 rfl rfl 3 (by decide) (hts (.fieldLink RX7 209 "PascalRowsModel" "isKept" "Z") (List.mem_of_getElem? (i := 1) rfl)) (fun _ h9 => h9) rfl dX7_undo_1 ?_
  refine lv_if_ne (tgt := 10) hx hb dX7_undo_4 (by decide) (fun c_1 => ?_) (fun c_1 => ?_)
  · have hr := ite_n hr c_1
    refine lv_aload_n hx hb dX7_undo_10 rfl (lv_at hl 0 rfl) ?_
    refine va_get (D := (dC, dI)) (ci := 6) (v := .ref a_o_kept) (C := RX7) (T := TX7) (N := 15) hx hb hts iX7 hown hK hP 0 rfl rfl 1 (by decide) (hts (.fieldLink RX7 15 "PascalRowsModel" "kept" "[I") (List.mem_of_getElem? (i := 2) rfl)) (fun _ h9 => h9) rfl dX7_undo_11 ?_
    refine lv_aload_n hx hb dX7_undo_14 rfl (lv_at hl 0 rfl) ?_
    refine va_get (D := (dC, dI)) (ci := 6) (v := .ref a_o_g) (C := RX7) (T := TX7) (N := 15) hx hb hts iX7 hown hK hP 0 rfl rfl 0 (by decide) (hts (.fieldLink RX7 11 "PascalRowsModel" "g" "[I") (List.mem_of_getElem? (i := 3) rfl)) (fun _ h9 => h9) rfl dX7_undo_15 ?_
    obtain ⟨u_2, hu_2, hr⟩ := bd_e hr
    refine mu_S ⟨hx, hb, hml, hown, hts⟩ (k_X7_copies l dC dI cI cJ a_o_kept a_o_g 64 64 o_kept o_g H.size u_2 hu_2) (va_cwS 2 hts gX7_undo_X7_copies rfl rfl rfl (by decide +kernel) ⟨Nat.le_of_ble_eq_true rfl, Nat.le_of_ble_eq_true rfl⟩) hE rfl hl.1 rfl (Nat.le_of_ble_eq_true rfl) dX7_undo_18 ⟨Nat.zero_le _, Nat.zero_le _⟩ hP (hD.fst rfl) hS hA [2, 1] [0] [0, 2, 1] rfl rfl (by decide) (by decide) rfl (by decide) (W1 := [(a_o, .inr (6, [.ref a_o_g, .ref a_o_kept, .ref a_o_was, .int o_isKept, .ref a_o_triangle, .int o_takenBy, .ref a_o_text, .int o_fed, .int o_place, .int o_letter, .int o_first, .int o_second, .ref a_o_sort, .ref a_o_size, .ref a_o_items])), (a_o_g, .inl (cI, 64, .inl u_2)), (a_o_kept, .inl (cI, 64, .inl o_kept))]) rfl (fun H locs hP hS => W.eq (g2 := F0 m 21 ls []) rfl ?_)
    refine lv_aload_n hx hb dX7_undo_21 rfl (lv_at hl 0 rfl) ?_
    obtain ⟨u_3, hu_3, hr⟩ := bd_e hr
    refine ro_V ⟨hx, hb, hml, hown, hts⟩ (k_X7_modulus l dC dI cI cJ a_o a_o_g a_o_kept a_o_was a_o_triangle a_o_text a_o_sort a_o_size a_o_items o_isKept o_takenBy o_fed o_place o_letter o_first o_second u_2 u_3 hu_3) (cwV 0 hts gX7_undo_X7_modulus rfl rfl rfl (by decide +kernel) ⟨Nat.le_of_ble_eq_true rfl, Nat.le_of_ble_eq_true rfl⟩) hE hP 0 rfl rfl rfl (hP.sub [0, 1] rfl) rfl hl.1 rfl (Nat.le_of_ble_eq_true rfl) dX7_undo_22 ⟨Nat.zero_le _, Nat.zero_le _⟩ ?_
    obtain rfl := Option.some.inj hr
    exact hret H locs _ hP hS (fun Qc free hq hf => W.iret hx hb hrt hq hf dX7_undo_25 hlocks)
  · have hr := ite_p hr c_1
    refine lv_bipush (v := (-3 : Int32)) hx hb dX7_undo_7 (by decide) ?_
    obtain rfl := Option.some.inj hr
    exact hret H locs _ hP hS (fun Qc free hq hf => W.iret hx hb hrt hq hf dX7_undo_9 hlocks)
/-! X7_count -/
def rmX7_count : Room := { frames := 0, cells := 0, slots := 0, locals := 0 }
set_option maxHeartbeats 4000000 in
set_option maxRecDepth 100000 in
theorem k_X7_count (l : Launch) (dC : Nat → ClassId) (dI : Nat → Nat → Nat) (cI cJ : ClassId) (a_o : Nat) (a_o_g : Nat) (a_o_kept : Nat) (a_o_was : Nat) (a_o_triangle : Nat) (a_o_text : Nat) (a_o_sort : Nat) (a_o_size : Nat) (a_o_items : Nat) (p0 : Int32) (o_isKept : Int32) (o_takenBy : Int32) (o_fed : Int32) (o_place : Int32) (o_letter : Int32) (o_first : Int32) (o_second : Int32) (o_g : Nat → Int32) (r : Int32) (hr : f_X7_count p0 o_g o_fed = some r) : Met l yX7_count wsX7_count rmX7_count (va_Pc [.ref a_o, .int p0] (pE (dC, dI) cI cJ [(a_o, .inr (6, [.ref a_o_g, .ref a_o_kept, .ref a_o_was, .int o_isKept, .ref a_o_triangle, .int o_takenBy, .ref a_o_text, .int o_fed, .int o_place, .int o_letter, .int o_first, .int o_second, .ref a_o_sort, .ref a_o_size, .ref a_o_items])), (a_o_g, .inl (cI, 64, .inl o_g))])) (rq (.int r)) 0 0 nofree := by
  refine ro_of_i (cc := cX7_count) (maxL := 2) (by decide) rfl (Nat.le_of_ble_eq_true rfl) ?_
  intro p e s m args below meth c Q ls hx hb hml hown hts hE hP hret hl
  have hK := hE.1
  have hl : lv_has ls 2 [(0, .ref a_o), (1, .int p0)] := hl
  unfold f_X7_count at hr
  have iX7 : ∀ w ∈ wsX70, w ∈ wsX7_count := memr_ (big := wsX7_count) wsX70 [3, 4, 5, 6, 7, 8, 9, 10, 11, 12, 13, 14, 15, 16, 17] (by decide +kernel)
  refine lv_iload_n hx hb dX7_count_0 rfl (lv_at hl 1 rfl) ?_
  by_cases c_1 : p0 = (0 : Int32)
  · have hr := ite_p hr c_1
    refine W.eq (g2 := F0 m 1 ls (.int (0 : Int32) :: [])) (congrArg (fun z => F0 m 1 ls (.int z :: [])) c_1) ?_
    refine lv_tableIn (tgt := 32) hx hb dX7_count_1 (by decide) (by decide) (by first | rfl | decide) (by decide) ?_
    refine lv_aload_n hx hb dX7_count_32 rfl (lv_at hl 0 rfl) ?_
    refine va_get (D := (dC, dI)) (ci := 6) (v := .ref a_o_g) (C := RX7) (T := TX7) (N := 15) hx hb hts iX7 hown hK hP 0 rfl rfl 0 (by decide) (hts (.fieldLink RX7 11 "PascalRowsModel" "g" "[I") (List.mem_of_getElem? (i := 1) rfl)) (fun _ h9 => h9) rfl dX7_count_33 ?_
    refine lv_bipush (v := (17 : Int32)) hx hb dX7_count_36 (by decide) ?_
    obtain ⟨g_2, eg_2, hg_2, hr⟩ := rd_e hr
    refine va_iald hx hb hK hP 1 0 rfl rfl hg_2 dX7_count_38 ?_
    refine tp_ eg_2 ?_
    exact hret 39 ls _ dX7_count_39 (Option.some.inj hr)
  have hr := ite_n hr c_1
  by_cases c_3 : p0 = (1 : Int32)
  · have hr := ite_p hr c_3
    refine W.eq (g2 := F0 m 1 ls (.int (1 : Int32) :: [])) (congrArg (fun z => F0 m 1 ls (.int z :: [])) c_3) ?_
    refine lv_tableIn (tgt := 40) hx hb dX7_count_1 (by decide) (by decide) (by first | rfl | decide) (by decide) ?_
    refine lv_aload_n hx hb dX7_count_40 rfl (lv_at hl 0 rfl) ?_
    refine va_get (D := (dC, dI)) (ci := 6) (v := .ref a_o_g) (C := RX7) (T := TX7) (N := 15) hx hb hts iX7 hown hK hP 0 rfl rfl 0 (by decide) (hts (.fieldLink RX7 11 "PascalRowsModel" "g" "[I") (List.mem_of_getElem? (i := 1) rfl)) (fun _ h9 => h9) rfl dX7_count_41 ?_
    refine lv_bipush (v := (30 : Int32)) hx hb dX7_count_44 (by decide) ?_
    obtain ⟨g_4, eg_4, hg_4, hr⟩ := rd_e hr
    refine va_iald hx hb hK hP 1 0 rfl rfl hg_4 dX7_count_46 ?_
    refine tp_ eg_4 ?_
    exact hret 47 ls _ dX7_count_47 (Option.some.inj hr)
  have hr := ite_n hr c_3
  by_cases c_5 : p0 = (2 : Int32)
  · have hr := ite_p hr c_5
    refine W.eq (g2 := F0 m 1 ls (.int (2 : Int32) :: [])) (congrArg (fun z => F0 m 1 ls (.int z :: [])) c_5) ?_
    refine lv_tableIn (tgt := 48) hx hb dX7_count_1 (by decide) (by decide) (by first | rfl | decide) (by decide) ?_
    refine lv_aload_n hx hb dX7_count_48 rfl (lv_at hl 0 rfl) ?_
    refine va_get (D := (dC, dI)) (ci := 6) (v := .ref a_o_g) (C := RX7) (T := TX7) (N := 15) hx hb hts iX7 hown hK hP 0 rfl rfl 0 (by decide) (hts (.fieldLink RX7 11 "PascalRowsModel" "g" "[I") (List.mem_of_getElem? (i := 1) rfl)) (fun _ h9 => h9) rfl dX7_count_49 ?_
    refine lv_bipush (v := (47 : Int32)) hx hb dX7_count_52 (by decide) ?_
    obtain ⟨g_6, eg_6, hg_6, hr⟩ := rd_e hr
    refine va_iald hx hb hK hP 1 0 rfl rfl hg_6 dX7_count_54 ?_
    refine tp_ eg_6 ?_
    exact hret 55 ls _ dX7_count_55 (Option.some.inj hr)
  have hr := ite_n hr c_5
  by_cases c_7 : p0 = (3 : Int32)
  · have hr := ite_p hr c_7
    refine W.eq (g2 := F0 m 1 ls (.int (3 : Int32) :: [])) (congrArg (fun z => F0 m 1 ls (.int z :: [])) c_7) ?_
    refine lv_tableIn (tgt := 56) hx hb dX7_count_1 (by decide) (by decide) (by first | rfl | decide) (by decide) ?_
    refine lv_aload_n hx hb dX7_count_56 rfl (lv_at hl 0 rfl) ?_
    refine va_get (D := (dC, dI)) (ci := 6) (v := .int o_fed) (C := RX7) (T := TX7) (N := 15) hx hb hts iX7 hown hK hP 0 rfl rfl 7 (by decide) (hts (.fieldLink RX7 99 "PascalRowsModel" "fed" "I") (List.mem_of_getElem? (i := 2) rfl)) (fun _ h9 => h9) rfl dX7_count_57 ?_
    exact hret 60 ls _ dX7_count_60 (Option.some.inj hr)
  have hr := ite_n hr c_7
  refine lv_tableOut (tgt := 61) hx hb dX7_count_1 (tbl_out (fun k h1 h2 => ?_)) (by decide) ?_
  · rcases (show k = 0 ∨ k = 1 ∨ k = 2 ∨ k = 3 by omega) with rfl | rfl | rfl | rfl
    · exact i32_ne c_1 rfl
    · exact i32_ne c_3 rfl
    · exact i32_ne c_5 rfl
    · exact i32_ne c_7 rfl
  refine lv_bipush (v := (-2 : Int32)) hx hb dX7_count_61 (by decide) ?_
  exact hret 63 ls _ dX7_count_63 (Option.some.inj hr)
/-! X7_tape -/
def rmX7_tape : Room := { frames := 2, cells := 0, slots := 0, locals := 45 }
set_option maxHeartbeats 4000000 in
set_option maxRecDepth 100000 in
theorem k_X7_tape (l : Launch) (dC : Nat → ClassId) (dI : Nat → Nat → Nat) (cI cJ : ClassId) (a_o : Nat) (a_o_g : Nat) (a_o_kept : Nat) (a_o_was : Nat) (a_o_triangle : Nat) (a_o_text : Nat) (a_o_sort : Nat) (a_o_size : Nat) (a_o_items : Nat) (p0 : Int32) (p1 : Int32) (p2 : Int32) (o_isKept : Int32) (o_takenBy : Int32) (o_fed : Int32) (o_place : Int32) (o_letter : Int32) (o_first : Int32) (o_second : Int32) (o_sort : Nat → Int32) (o_size : Nat → Int32) (o_items : Nat → Int64) (sz : Nat) (r : Int32 × (Nat → Int32) × (Nat → Int32) × (Nat → Int64)) (hr : f_X7_tape p0 p1 p2 o_sort o_size o_items = some r) : Met l yX7_tape wsX7_tape rmX7_tape (va_Pc [.ref a_o, .int p0, .int p1, .int p2] (pM (dC, dI) cI cJ [(a_o, .inr (6, [.ref a_o_g, .ref a_o_kept, .ref a_o_was, .int o_isKept, .ref a_o_triangle, .int o_takenBy, .ref a_o_text, .int o_fed, .int o_place, .int o_letter, .int o_first, .int o_second, .ref a_o_sort, .ref a_o_size, .ref a_o_items])), (a_o_sort, .inl (cI, 6, .inl o_sort)), (a_o_size, .inl (cI, 6, .inl o_size)), (a_o_items, .inl (cJ, 360, .inr (.inl o_items)))] sz)) (qM (some (.int r.1)) (dC, dI) [(a_o, .inr (6, [.ref a_o_g, .ref a_o_kept, .ref a_o_was, .int o_isKept, .ref a_o_triangle, .int o_takenBy, .ref a_o_text, .int o_fed, .int o_place, .int o_letter, .int o_first, .int o_second, .ref a_o_sort, .ref a_o_size, .ref a_o_items])), (a_o_sort, .inl (cI, 6, .inl r.2.1)), (a_o_size, .inl (cI, 6, .inl r.2.2.1)), (a_o_items, .inl (cJ, 360, .inr (.inl r.2.2.2)))] (va_A [(a_o, .inr (6, [.ref a_o_g, .ref a_o_kept, .ref a_o_was, .int o_isKept, .ref a_o_triangle, .int o_takenBy, .ref a_o_text, .int o_fed, .int o_place, .int o_letter, .int o_first, .int o_second, .ref a_o_sort, .ref a_o_size, .ref a_o_items])), (a_o_sort, .inl (cI, 6, .inl o_sort)), (a_o_size, .inl (cI, 6, .inl o_size)), (a_o_items, .inl (cJ, 360, .inr (.inl o_items)))] sz)) 0 0 (va_A [(a_o, .inr (6, [.ref a_o_g, .ref a_o_kept, .ref a_o_was, .int o_isKept, .ref a_o_triangle, .int o_takenBy, .ref a_o_text, .int o_fed, .int o_place, .int o_letter, .int o_first, .int o_second, .ref a_o_sort, .ref a_o_size, .ref a_o_items])), (a_o_sort, .inl (cI, 6, .inl o_sort)), (a_o_size, .inl (cI, 6, .inl o_size)), (a_o_items, .inl (cJ, 360, .inr (.inl o_items)))] sz) := by
  refine mu_of (cc := cX7_tape) (maxL := 5) (by decide) rfl (Nat.le_of_ble_eq_true rfl) ?_
  intro p e s m args below meth c Q ls A hx hb hml hown hts hE hP hD hA hrt hlocks hret hl
  have hK := hE.1
  have hS : va_S A s.heap s.heap [] := va_S.rf
  have hl : lv_has ls 5 [(0, .ref a_o), (1, .int p0), (2, .int p1), (3, .int p2)] := hl
  unfold f_X7_tape at hr
  obtain ⟨H, hHe⟩ : ∃ H, H = s.heap := ⟨_, rfl⟩
  obtain ⟨locs, hLe⟩ : ∃ locs : List Loc, locs = [] := ⟨_, rfl⟩
  suffices hgo : va_P (dC, dI) vwCl [(a_o, .inr (6, [.ref a_o_g, .ref a_o_kept, .ref a_o_was, .int o_isKept, .ref a_o_triangle, .int o_takenBy, .ref a_o_text, .int o_fed, .int o_place, .int o_letter, .int o_first, .int o_second, .ref a_o_sort, .ref a_o_size, .ref a_o_items])), (a_o_sort, .inl (cI, 6, .inl o_sort)), (a_o_size, .inl (cI, 6, .inl o_size)), (a_o_items, .inl (cJ, 360, .inr (.inl o_items)))] H → va_S A s.heap H locs → W p l e rmX7_tape s m args below meth c H locs 0 0 Q (F0 m 0 ls []) by
    subst hHe; subst hLe; exact hgo hP hS
  clear hP hS hHe hLe
  intro hP hS
  have iX7 : ∀ w ∈ wsX70, w ∈ wsX7_tape := memr_ (big := wsX7_tape) wsX70 [14, 15, 16, 17, 18, 19, 20, 21, 22, 23, 24, 25, 26, 27, 28] (by decide +kernel)
  refine lv_iload_n hx hb dX7_tape_0 rfl (lv_at hl 1 rfl) ?_
  refine ro_S ⟨hx, hb, hml, hown, hts⟩ (k_X7_isTape l dC dI cI cJ p0) (va_cwS 1 hts gX7_tape_X7_isTape rfl rfl rfl (by decide +kernel) ⟨Nat.le_of_ble_eq_true rfl, Nat.le_of_ble_eq_true rfl⟩) hE (hP.sub [] rfl) rfl hl.1 rfl (Nat.le_of_ble_eq_true rfl) dX7_tape_1 ⟨Nat.zero_le _, Nat.zero_le _⟩ ?_
  refine lv_if_ne (tgt := 9) hx hb dX7_tape_4 (by decide) (fun c_1 => ?_) (fun c_1 => ?_)
  · have hr := ite_n hr c_1
    refine lv_iload_n hx hb dX7_tape_9 rfl (lv_at hl 2 rfl) ?_
    refine lv_i2l (v := (Int32.toInt64 p1)) hx hb dX7_tape_10 rfl ?_
    refine lv_ldc2 (v := (-1 : Int64)) hx hb hown (hts (.constantLong RX7 213 (-1)) (List.mem_of_getElem? (i := 1) rfl)) dX7_tape_11 ?_
    refine lv_ldc2 (v := (4 : Int64)) hx hb hown (hts (.constantLong RX7 81 (4)) (List.mem_of_getElem? (i := 2) rfl)) dX7_tape_14 ?_
    refine ro_S ⟨hx, hb, hml, hown, hts⟩ (k_X7_isIn l dC dI cI cJ (Int32.toInt64 p1) (-1 : Int64) (4 : Int64)) (va_cwS 3 hts gX7_tape_X7_isIn rfl rfl rfl (by decide +kernel) ⟨Nat.le_of_ble_eq_true rfl, Nat.le_of_ble_eq_true rfl⟩) hE (hP.sub [] rfl) rfl hl.1 rfl (Nat.le_of_ble_eq_true rfl) dX7_tape_17 ⟨Nat.zero_le _, Nat.zero_le _⟩ ?_
    have tT_3 : (((f_X7_isIn (Int32.toInt64 p1) (-1 : Int64) (4 : Int64)) = 0) ∨ ((¬ (p1 = (-1 : Int32))) ∧ (¬ (p2 ≤ (60 : Int32))))) → W p l e rmX7_tape s m args below meth c H locs 0 0 Q (F0 m 34 ls []) := by
      intro hc_2
      have hr := ite_p hr hc_2
      refine lv_bipush (v := (-2 : Int32)) hx hb dX7_tape_34 (by decide) ?_
      obtain rfl := Option.some.inj hr
      exact hret H locs _ hP hS (fun Qc free hq hf => W.iret hx hb hrt hq hf dX7_tape_36 hlocks)
    have tF_4 : ¬ (((f_X7_isIn (Int32.toInt64 p1) (-1 : Int64) (4 : Int64)) = 0) ∨ ((¬ (p1 = (-1 : Int32))) ∧ (¬ (p2 ≤ (60 : Int32))))) → W p l e rmX7_tape s m args below meth c H locs 0 0 Q (F0 m 37 ls []) := by
      intro hc_2
      have hr := ite_n hr hc_2
      refine lv_iload_n hx hb dX7_tape_37 rfl (lv_at hl 2 rfl) ?_
      refine lv_iconst (v := (-1 : Int32)) hx hb dX7_tape_38 (by decide) ?_
      have tT_6 : ((¬ (p1 = (-1 : Int32))) ∧ (¬ (0 ≤ p2))) → W p l e rmX7_tape s m args below meth c H locs 0 0 Q (F0 m 46 ls []) := by
        intro hc_5
        have hr := ite_p hr hc_5
        refine lv_bipush (v := (-14 : Int32)) hx hb dX7_tape_46 (by decide) ?_
        obtain rfl := Option.some.inj hr
        exact hret H locs _ hP hS (fun Qc free hq hf => W.iret hx hb hrt hq hf dX7_tape_48 hlocks)
      have tF_7 : ¬ ((¬ (p1 = (-1 : Int32))) ∧ (¬ (0 ≤ p2))) → W p l e rmX7_tape s m args below meth c H locs 0 0 Q (F0 m 49 ls []) := by
        intro hc_5
        have hr := ite_n hr hc_5
        refine lv_aload_n hx hb dX7_tape_49 rfl (lv_at hl 0 rfl) ?_
        refine va_get (D := (dC, dI)) (ci := 6) (v := .ref a_o_sort) (C := RX7) (T := TX7) (N := 15) hx hb hts iX7 hown hK hP 0 rfl rfl 12 (by decide) (hts (.fieldLink RX7 27 "PascalRowsModel" "sort" "[I") (List.mem_of_getElem? (i := 3) rfl)) (fun _ h9 => h9) rfl dX7_tape_50 ?_
        refine lv_iload_n hx hb dX7_tape_53 rfl (lv_at hl 1 rfl) ?_
        refine lv_iload_n hx hb dX7_tape_54 rfl (lv_at hl 2 rfl) ?_
        obtain ⟨w_8, ew_8, hw_8, hr⟩ := wr_e hr
        refine va_iast hx hb hK hP (hD.fst rfl) hS 1 0 rfl rfl hw_8 dX7_tape_55 (fun H locs hP _ hS => ?_)
        rw [← ew_8] at hP
        have hP : va_P (dC, dI) vwCl [(a_o, .inr (6, [.ref a_o_g, .ref a_o_kept, .ref a_o_was, .int o_isKept, .ref a_o_triangle, .int o_takenBy, .ref a_o_text, .int o_fed, .int o_place, .int o_letter, .int o_first, .int o_second, .ref a_o_sort, .ref a_o_size, .ref a_o_items])), (a_o_sort, .inl (cI, 6, .inl w_8)), (a_o_size, .inl (cI, 6, .inl o_size)), (a_o_items, .inl (cJ, 360, .inr (.inl o_items)))] H := hP
        refine lv_aload_n hx hb dX7_tape_56 rfl (lv_at hl 0 rfl) ?_
        refine va_get (D := (dC, dI)) (ci := 6) (v := .ref a_o_size) (C := RX7) (T := TX7) (N := 15) hx hb hts iX7 hown hK hP 0 rfl rfl 13 (by decide) (hts (.fieldLink RX7 30 "PascalRowsModel" "size" "[I") (List.mem_of_getElem? (i := 4) rfl)) (fun _ h9 => h9) rfl dX7_tape_57 ?_
        refine lv_iload_n hx hb dX7_tape_60 rfl (lv_at hl 1 rfl) ?_
        refine lv_iload_n hx hb dX7_tape_61 rfl (lv_at hl 2 rfl) ?_
        refine lv_iconst (v := (-1 : Int32)) hx hb dX7_tape_62 (by decide) ?_
        have hJ_9 : ∀ (y_10 : Int32) (ey_10 : y_10 = (if (¬ (p1 = (-1 : Int32))) then p2 else (0 : Int32))) (ls : Array Slot), lv_has ls 5 [(0, .ref a_o), (1, .int p0)] → W p l e rmX7_tape s m args below meth c H locs 0 0 Q (F0 m 71 ls [.int y_10, .int p0, .ref a_o_size]) := by
          intro y_10 ey_10 ls hl
          subst ey_10
          obtain ⟨w_11, ew_11, hw_11, hr⟩ := wr_e hr
          refine va_iast hx hb hK hP (hD.fst rfl) hS 2 0 rfl rfl hw_11 dX7_tape_71 (fun H locs hP _ hS => ?_)
          rw [← ew_11] at hP
          have hP : va_P (dC, dI) vwCl [(a_o, .inr (6, [.ref a_o_g, .ref a_o_kept, .ref a_o_was, .int o_isKept, .ref a_o_triangle, .int o_takenBy, .ref a_o_text, .int o_fed, .int o_place, .int o_letter, .int o_first, .int o_second, .ref a_o_sort, .ref a_o_size, .ref a_o_items])), (a_o_sort, .inl (cI, 6, .inl w_8)), (a_o_size, .inl (cI, 6, .inl w_11)), (a_o_items, .inl (cJ, 360, .inr (.inl o_items)))] H := hP
          refine lv_iconst (v := (0 : Int32)) hx hb dX7_tape_72 (by decide) ?_
          refine lv_istore (lv' := [(4, .int (0 : Int32)), (0, .ref a_o), (1, .int p0)]) hx hb dX7_tape_73 hl (by decide) rfl (fun ls hl => ?_)
          have hL75 : ∀ (v1_75 : Int32) (o_sort_75 : Nat → Int32) (o_size_75 : Nat → Int32) (k_75 : (Nat → Int64) → Option (Int32 × (Nat → Int32) × (Nat → Int32) × (Nat → Int64))) (hk : ∀ (xc_o_items_75 : Nat → Int64) (ls : Array Slot), lv_has ls 5 [] → ∀ (H : Heap) (locs : List Loc), va_P (dC, dI) vwCl [(a_o, .inr (6, [.ref a_o_g, .ref a_o_kept, .ref a_o_was, .int o_isKept, .ref a_o_triangle, .int o_takenBy, .ref a_o_text, .int o_fed, .int o_place, .int o_letter, .int o_first, .int o_second, .ref a_o_sort, .ref a_o_size, .ref a_o_items])), (a_o_sort, .inl (cI, 6, .inl o_sort_75)), (a_o_size, .inl (cI, 6, .inl o_size_75)), (a_o_items, .inl (cJ, 360, .inr (.inl xc_o_items_75)))] H → va_S A s.heap H locs →  k_75 xc_o_items_75 = some r → W p l e rmX7_tape s m args below meth c H locs 0 0 Q (F0 m 101 ls [])) (fuel : Nat) (v4_75 : Int32) (o_items_75 : Nat → Int64) (ls : Array Slot), lv_has ls 5 [(0, .ref a_o), (1, .int v1_75), (4, .int v4_75)] → ∀ (H : Heap) (locs : List Loc), va_P (dC, dI) vwCl [(a_o, .inr (6, [.ref a_o_g, .ref a_o_kept, .ref a_o_was, .int o_isKept, .ref a_o_triangle, .int o_takenBy, .ref a_o_text, .int o_fed, .int o_place, .int o_letter, .int o_first, .int o_second, .ref a_o_sort, .ref a_o_size, .ref a_o_items])), (a_o_sort, .inl (cI, 6, .inl o_sort_75)), (a_o_size, .inl (cI, 6, .inl o_size_75)), (a_o_items, .inl (cJ, 360, .inr (.inl o_items_75)))] H → va_S A s.heap H locs → f_X7_tape_L75 k_75 v1_75 fuel v4_75 o_items_75 = some r → W p l e rmX7_tape s m args below meth c H locs 0 0 Q (F0 m 75 ls []) := by
            intro v1_75 o_sort_75 o_size_75 k_75 hk fuel
            induction fuel with
            | zero =>
              intro v4_75 o_items_75 ls hl H locs hP hS hr
              rw [f_X7_tape_L75_z] at hr
              cases hr
            | succ fuel ih =>
              intro v4_75 o_items_75 ls hl H locs hP hS hr
              rw [f_X7_tape_L75_s] at hr
              refine lv_iload hx hb dX7_tape_75 (lv_at hl 2 rfl) ?_
              refine lv_bipush (v := (60 : Int32)) hx hb dX7_tape_77 (by decide) ?_
              refine lv_icmp_ge (tgt := 101) hx hb dX7_tape_79 (by decide) (fun c_12 => ?_) (fun c_12 => ?_)
              · have hr := ite_p hr c_12
                exact hk o_items_75 ls (lv_sub hl [] rfl) H locs hP hS hr
              · have hr := ite_n hr c_12
                refine lv_aload_n hx hb dX7_tape_82 rfl (lv_at hl 0 rfl) ?_
                refine va_get (D := (dC, dI)) (ci := 6) (v := .ref a_o_items) (C := RX7) (T := TX7) (N := 15) hx hb hts iX7 hown hK hP 0 rfl rfl 14 (by decide) (hts (.fieldLink RX7 33 "PascalRowsModel" "items" "[J") (List.mem_of_getElem? (i := 5) rfl)) (fun _ h9 => h9) rfl dX7_tape_83 ?_
                refine lv_bipush (v := (60 : Int32)) hx hb dX7_tape_86 (by decide) ?_
                refine lv_iload_n hx hb dX7_tape_88 rfl (lv_at hl 1 rfl) ?_
                refine lv_imul hx hb dX7_tape_89 ?_
                refine lv_iload hx hb dX7_tape_90 (lv_at hl 2 rfl) ?_
                refine lv_iadd hx hb dX7_tape_92 ?_
                refine lv_lconst (v := (0 : Int64)) hx hb dX7_tape_93 (by decide) ?_
                obtain ⟨w_13, ew_13, hw_13, hr⟩ := wrL_e hr
                refine va_last hx hb hK hP (hD.fst rfl) hS 3 1 rfl rfl hw_13 dX7_tape_94 (fun H locs hP _ hS => ?_)
                rw [← ew_13] at hP
                have hP : va_P (dC, dI) vwCl [(a_o, .inr (6, [.ref a_o_g, .ref a_o_kept, .ref a_o_was, .int o_isKept, .ref a_o_triangle, .int o_takenBy, .ref a_o_text, .int o_fed, .int o_place, .int o_letter, .int o_first, .int o_second, .ref a_o_sort, .ref a_o_size, .ref a_o_items])), (a_o_sort, .inl (cI, 6, .inl o_sort_75)), (a_o_size, .inl (cI, 6, .inl o_size_75)), (a_o_items, .inl (cJ, 360, .inr (.inl w_13)))] H := hP
                refine lv_iinc (v := (v4_75 + (1 : Int32))) (lv' := [(4, .int (v4_75 + (1 : Int32))), (0, .ref a_o), (1, .int v1_75)]) hx hb dX7_tape_95 hl (k := 2) rfl (congrArg (fun z => v4_75 + z) (by decide)) (by decide) rfl (fun ls hl => ?_)
                refine lv_goto (tgt := 75) hx hb dX7_tape_98 (by decide) ?_
                exact ih (v4_75 + (1 : Int32)) w_13 ls (lv_sub hl [1, 2, 0] rfl) H locs hP hS hr
          refine hL75 p0 w_8 w_11 _ (fun xc_o_items_75 ls hl H locs hP hS hr => ?_) 5000 (0 : Int32) o_items ls (lv_sub hl [1, 2, 0] rfl) H locs hP hS hr
          refine lv_iconst (v := (1 : Int32)) hx hb dX7_tape_101 (by decide) ?_
          obtain rfl := Option.some.inj hr
          exact hret H locs _ hP hS (fun Qc free hq hf => W.iret hx hb hrt hq hf dX7_tape_102 hlocks)
        refine lv_icmp_ne (tgt := 70) hx hb dX7_tape_63 (by decide) (fun c_14 => ?_) (fun c_14 => ?_)
        · refine lv_iload_n hx hb dX7_tape_70 rfl (lv_at hl 3 rfl) ?_
          exact hJ_9 _ (if_pos c_14).symm ls (lv_sub hl [0, 1] rfl)
        · refine lv_iconst (v := (0 : Int32)) hx hb dX7_tape_66 (by decide) ?_
          refine lv_goto (tgt := 71) hx hb dX7_tape_67 (by decide) ?_
          exact hJ_9 _ (if_neg (fun h => h c_14)).symm ls (lv_sub hl [0, 1] rfl)
      refine lv_icmp_eq (tgt := 49) hx hb dX7_tape_39 (by decide) (fun c_15 => ?_) (fun c_15 => ?_)
      · exact tF_7 (fun h => (fun h => h c_15) h.1)
      · refine lv_iload_n hx hb dX7_tape_42 rfl (lv_at hl 3 rfl) ?_
        refine lv_if_ge (tgt := 49) hx hb dX7_tape_43 (by decide) (fun c_16 => ?_) (fun c_16 => ?_)
        · exact tF_7 (fun h => (fun h => h c_16) h.2)
        · exact tT_6 ⟨c_15, c_16⟩
    refine lv_if_eq (tgt := 34) hx hb dX7_tape_20 (by decide) (fun c_17 => ?_) (fun c_17 => ?_)
    · exact tT_3 (Or.inl c_17)
    · refine lv_iload_n hx hb dX7_tape_23 rfl (lv_at hl 2 rfl) ?_
      refine lv_iconst (v := (-1 : Int32)) hx hb dX7_tape_24 (by decide) ?_
      refine lv_icmp_eq (tgt := 37) hx hb dX7_tape_25 (by decide) (fun c_18 => ?_) (fun c_18 => ?_)
      · exact tF_4 (fun h => h.elim c_17 (fun h => (fun h => h c_18) h.1))
      · refine lv_iload_n hx hb dX7_tape_28 rfl (lv_at hl 3 rfl) ?_
        refine lv_bipush (v := (60 : Int32)) hx hb dX7_tape_29 (by decide) ?_
        refine lv_icmp_le (tgt := 37) hx hb dX7_tape_31 (by decide) (fun c_19 => ?_) (fun c_19 => ?_)
        · exact tF_4 (fun h => h.elim c_17 (fun h => (fun h => h c_19) h.2))
        · exact tT_3 (Or.inr ⟨c_18, c_19⟩)
  · have hr := ite_p hr c_1
    refine lv_iconst (v := (-1 : Int32)) hx hb dX7_tape_7 (by decide) ?_
    obtain rfl := Option.some.inj hr
    exact hret H locs _ hP hS (fun Qc free hq hf => W.iret hx hb hrt hq hf dX7_tape_8 hlocks)
/-! X7_lies -/
def rmX7_lies : Room := { frames := 0, cells := 0, slots := 0, locals := 0 }
set_option maxHeartbeats 4000000 in
set_option maxRecDepth 100000 in
theorem k_X7_lies (l : Launch) (dC : Nat → ClassId) (dI : Nat → Nat → Nat) (cI cJ : ClassId) (p0 : Int32) (p1 : Int64) (r : Int64) (hr : f_X7_lies p0 p1 = some r) : Met l yX7_lies wsX7_lies rmX7_lies (va_Pc [.int p0, .long p1] (pE (dC, dI) cI cJ [])) (rq (.long r)) 0 0 nofree := by
  refine ro_of_l (cc := cX7_lies) (maxL := 3) (by decide) rfl (Nat.le_of_ble_eq_true rfl) ?_
  intro p e s m args below meth c Q ls hx hb hml hown hts hE hP hret hl
  have hK := hE.1
  have hl : lv_has ls 3 [(0, .int p0), (1, .long p1)] := hl
  unfold f_X7_lies at hr
  refine lv_iload_n hx hb dX7_lies_0 rfl (lv_at hl 0 rfl) ?_
  by_cases c_1 : p0 = (0 : Int32)
  · have hr := ite_p hr c_1
    refine W.eq (g2 := F0 m 1 ls (.int (0 : Int32) :: [])) (congrArg (fun z => F0 m 1 ls (.int z :: [])) c_1) ?_
    refine lv_tableIn (tgt := 32) hx hb dX7_lies_1 (by decide) (by decide) (by first | rfl | decide) (by decide) ?_
    refine lv_lload_n hx hb dX7_lies_32 rfl (lv_at hl 1 rfl) ?_
    refine lv_l2i (v := (Int64.toInt32 p1)) hx hb dX7_lies_33 rfl ?_
    refine lv_i2b (v := (Int8.toInt32 (Int32.toInt8 (Int64.toInt32 p1)))) hx hb dX7_lies_34 rfl ?_
    refine lv_i2l (v := (Int32.toInt64 (Int8.toInt32 (Int32.toInt8 (Int64.toInt32 p1))))) hx hb dX7_lies_35 rfl ?_
    exact hret 36 ls _ dX7_lies_36 (Option.some.inj hr)
  have hr := ite_n hr c_1
  by_cases c_2 : p0 = (1 : Int32)
  · have hr := ite_p hr c_2
    refine W.eq (g2 := F0 m 1 ls (.int (1 : Int32) :: [])) (congrArg (fun z => F0 m 1 ls (.int z :: [])) c_2) ?_
    refine lv_tableIn (tgt := 37) hx hb dX7_lies_1 (by decide) (by decide) (by first | rfl | decide) (by decide) ?_
    refine lv_lload_n hx hb dX7_lies_37 rfl (lv_at hl 1 rfl) ?_
    refine lv_l2i (v := (Int64.toInt32 p1)) hx hb dX7_lies_38 rfl ?_
    refine lv_i2s (v := (Int16.toInt32 (Int32.toInt16 (Int64.toInt32 p1)))) hx hb dX7_lies_39 rfl ?_
    refine lv_i2l (v := (Int32.toInt64 (Int16.toInt32 (Int32.toInt16 (Int64.toInt32 p1))))) hx hb dX7_lies_40 rfl ?_
    exact hret 41 ls _ dX7_lies_41 (Option.some.inj hr)
  have hr := ite_n hr c_2
  by_cases c_3 : p0 = (2 : Int32)
  · have hr := ite_p hr c_3
    refine W.eq (g2 := F0 m 1 ls (.int (2 : Int32) :: [])) (congrArg (fun z => F0 m 1 ls (.int z :: [])) c_3) ?_
    refine lv_tableIn (tgt := 42) hx hb dX7_lies_1 (by decide) (by decide) (by first | rfl | decide) (by decide) ?_
    refine lv_lload_n hx hb dX7_lies_42 rfl (lv_at hl 1 rfl) ?_
    refine lv_l2i (v := (Int64.toInt32 p1)) hx hb dX7_lies_43 rfl ?_
    refine lv_i2l (v := (Int32.toInt64 (Int64.toInt32 p1))) hx hb dX7_lies_44 rfl ?_
    exact hret 45 ls _ dX7_lies_45 (Option.some.inj hr)
  have hr := ite_n hr c_3
  by_cases c_4 : p0 = (3 : Int32)
  · have hr := ite_p hr c_4
    refine W.eq (g2 := F0 m 1 ls (.int (3 : Int32) :: [])) (congrArg (fun z => F0 m 1 ls (.int z :: [])) c_4) ?_
    refine lv_tableIn (tgt := 46) hx hb dX7_lies_1 (by decide) (by decide) (by first | rfl | decide) (by decide) ?_
    refine lv_lload_n hx hb dX7_lies_46 rfl (lv_at hl 1 rfl) ?_
    exact hret 47 ls _ dX7_lies_47 (Option.some.inj hr)
  have hr := ite_n hr c_4
  refine lv_tableOut (tgt := 48) hx hb dX7_lies_1 (tbl_out (fun k h1 h2 => ?_)) (by decide) ?_
  · rcases (show k = 0 ∨ k = 1 ∨ k = 2 ∨ k = 3 by omega) with rfl | rfl | rfl | rfl
    · exact i32_ne c_1 rfl
    · exact i32_ne c_2 rfl
    · exact i32_ne c_3 rfl
    · exact i32_ne c_4 rfl
  refine lv_lload_n hx hb dX7_lies_48 rfl (lv_at hl 1 rfl) ?_
  refine lv_lconst (v := (0 : Int64)) hx hb dX7_lies_49 (by decide) ?_
  refine W.lcmp hx hb dX7_lies_50 ?_
  have hJ_5 : ∀ (y_6 : Int64) (ey_6 : y_6 = (if (¬ ((lg_cmp p1 (0 : Int64)) = 0)) then (1 : Int64) else (0 : Int64))) (ls : Array Slot), lv_has ls 3 [] → W p l e rmX7_lies s m args below meth c s.heap [] 0 0 Q (F0 m 59 ls [.long y_6]) := by
    intro y_6 ey_6 ls hl
    subst ey_6
    exact hret 59 ls _ dX7_lies_59 (Option.some.inj hr)
  refine lv_if_ne (tgt := 58) hx hb dX7_lies_51 (by decide) (fun c_7 => ?_) (fun c_7 => ?_)
  · refine lv_lconst (v := (1 : Int64)) hx hb dX7_lies_58 (by decide) ?_
    exact hJ_5 _ (if_pos c_7).symm ls (lv_sub hl [] rfl)
  · refine lv_lconst (v := (0 : Int64)) hx hb dX7_lies_54 (by decide) ?_
    refine lv_goto (tgt := 59) hx hb dX7_lies_55 (by decide) ?_
    exact hJ_5 _ (if_neg (fun h => h c_7)).symm ls (lv_sub hl [] rfl)
/-! X7_item -/
def rmX7_item : Room := { frames := 2, cells := 0, slots := 0, locals := 47 }
set_option maxHeartbeats 4000000 in
set_option maxRecDepth 100000 in
theorem k_X7_item (l : Launch) (dC : Nat → ClassId) (dI : Nat → Nat → Nat) (cI cJ : ClassId) (a_o : Nat) (a_o_g : Nat) (a_o_kept : Nat) (a_o_was : Nat) (a_o_triangle : Nat) (a_o_text : Nat) (a_o_sort : Nat) (a_o_size : Nat) (a_o_items : Nat) (p0 : Int32) (p1 : Int32) (p2 : Int64) (o_isKept : Int32) (o_takenBy : Int32) (o_fed : Int32) (o_place : Int32) (o_letter : Int32) (o_first : Int32) (o_second : Int32) (o_sort : Nat → Int32) (o_size : Nat → Int32) (o_items : Nat → Int64) (sz : Nat) (r : Int32 × (Nat → Int64)) (hr : f_X7_item p0 p1 p2 o_sort o_size o_items = some r) : Met l yX7_item wsX7_item rmX7_item (va_Pc [.ref a_o, .int p0, .int p1, .long p2] (pM (dC, dI) cI cJ [(a_o, .inr (6, [.ref a_o_g, .ref a_o_kept, .ref a_o_was, .int o_isKept, .ref a_o_triangle, .int o_takenBy, .ref a_o_text, .int o_fed, .int o_place, .int o_letter, .int o_first, .int o_second, .ref a_o_sort, .ref a_o_size, .ref a_o_items])), (a_o_sort, .inl (cI, 6, .inl o_sort)), (a_o_size, .inl (cI, 6, .inl o_size)), (a_o_items, .inl (cJ, 360, .inr (.inl o_items)))] sz)) (qM (some (.int r.1)) (dC, dI) [(a_o, .inr (6, [.ref a_o_g, .ref a_o_kept, .ref a_o_was, .int o_isKept, .ref a_o_triangle, .int o_takenBy, .ref a_o_text, .int o_fed, .int o_place, .int o_letter, .int o_first, .int o_second, .ref a_o_sort, .ref a_o_size, .ref a_o_items])), (a_o_sort, .inl (cI, 6, .inl o_sort)), (a_o_size, .inl (cI, 6, .inl o_size)), (a_o_items, .inl (cJ, 360, .inr (.inl r.2)))] (va_A [(a_o, .inr (6, [.ref a_o_g, .ref a_o_kept, .ref a_o_was, .int o_isKept, .ref a_o_triangle, .int o_takenBy, .ref a_o_text, .int o_fed, .int o_place, .int o_letter, .int o_first, .int o_second, .ref a_o_sort, .ref a_o_size, .ref a_o_items])), (a_o_sort, .inl (cI, 6, .inl o_sort)), (a_o_size, .inl (cI, 6, .inl o_size)), (a_o_items, .inl (cJ, 360, .inr (.inl o_items)))] sz)) 0 0 (va_A [(a_o, .inr (6, [.ref a_o_g, .ref a_o_kept, .ref a_o_was, .int o_isKept, .ref a_o_triangle, .int o_takenBy, .ref a_o_text, .int o_fed, .int o_place, .int o_letter, .int o_first, .int o_second, .ref a_o_sort, .ref a_o_size, .ref a_o_items])), (a_o_sort, .inl (cI, 6, .inl o_sort)), (a_o_size, .inl (cI, 6, .inl o_size)), (a_o_items, .inl (cJ, 360, .inr (.inl o_items)))] sz) := by
  refine mu_of (cc := cX7_item) (maxL := 5) (by decide) rfl (Nat.le_of_ble_eq_true rfl) ?_
  intro p e s m args below meth c Q ls A hx hb hml hown hts hE hP hD hA hrt hlocks hret hl
  have hK := hE.1
  have hS : va_S A s.heap s.heap [] := va_S.rf
  have hl : lv_has ls 5 [(0, .ref a_o), (1, .int p0), (2, .int p1), (3, .long p2)] := hl
  unfold f_X7_item at hr
  obtain ⟨H, hHe⟩ : ∃ H, H = s.heap := ⟨_, rfl⟩
  obtain ⟨locs, hLe⟩ : ∃ locs : List Loc, locs = [] := ⟨_, rfl⟩
  suffices hgo : va_P (dC, dI) vwCl [(a_o, .inr (6, [.ref a_o_g, .ref a_o_kept, .ref a_o_was, .int o_isKept, .ref a_o_triangle, .int o_takenBy, .ref a_o_text, .int o_fed, .int o_place, .int o_letter, .int o_first, .int o_second, .ref a_o_sort, .ref a_o_size, .ref a_o_items])), (a_o_sort, .inl (cI, 6, .inl o_sort)), (a_o_size, .inl (cI, 6, .inl o_size)), (a_o_items, .inl (cJ, 360, .inr (.inl o_items)))] H → va_S A s.heap H locs → W p l e rmX7_item s m args below meth c H locs 0 0 Q (F0 m 0 ls []) by
    subst hHe; subst hLe; exact hgo hP hS
  clear hP hS hHe hLe
  intro hP hS
  have iX7 : ∀ w ∈ wsX70, w ∈ wsX7_item := memr_ (big := wsX7_item) wsX70 [19, 20, 21, 22, 23, 24, 25, 26, 27, 28, 29, 30, 31, 32, 33] (by decide +kernel)
  refine lv_iload_n hx hb dX7_item_0 rfl (lv_at hl 1 rfl) ?_
  refine ro_S ⟨hx, hb, hml, hown, hts⟩ (k_X7_isTape l dC dI cI cJ p0) (va_cwS 1 hts gX7_item_X7_isTape rfl rfl rfl (by decide +kernel) ⟨Nat.le_of_ble_eq_true rfl, Nat.le_of_ble_eq_true rfl⟩) hE (hP.sub [] rfl) rfl hl.1 rfl (Nat.le_of_ble_eq_true rfl) dX7_item_1 ⟨Nat.zero_le _, Nat.zero_le _⟩ ?_
  refine lv_if_ne (tgt := 9) hx hb dX7_item_4 (by decide) (fun c_1 => ?_) (fun c_1 => ?_)
  · have hr := ite_n hr c_1
    refine lv_aload_n hx hb dX7_item_9 rfl (lv_at hl 0 rfl) ?_
    refine va_get (D := (dC, dI)) (ci := 6) (v := .ref a_o_sort) (C := RX7) (T := TX7) (N := 15) hx hb hts iX7 hown hK hP 0 rfl rfl 12 (by decide) (hts (.fieldLink RX7 27 "PascalRowsModel" "sort" "[I") (List.mem_of_getElem? (i := 1) rfl)) (fun _ h9 => h9) rfl dX7_item_10 ?_
    refine lv_iload_n hx hb dX7_item_13 rfl (lv_at hl 1 rfl) ?_
    obtain ⟨g_2, eg_2, hg_2, hr⟩ := rd_e hr
    refine va_iald hx hb hK hP 1 0 rfl rfl hg_2 dX7_item_14 ?_
    refine tp_ eg_2 ?_
    refine lv_iconst (v := (-1 : Int32)) hx hb dX7_item_15 (by decide) ?_
    refine lv_icmp_ne (tgt := 22) hx hb dX7_item_16 (by decide) (fun c_3 => ?_) (fun c_3 => ?_)
    · have hr := ite_n hr c_3
      refine lv_aload_n hx hb dX7_item_22 rfl (lv_at hl 0 rfl) ?_
      refine lv_iload_n hx hb dX7_item_23 rfl (lv_at hl 1 rfl) ?_
      refine lv_iload_n hx hb dX7_item_24 rfl (lv_at hl 2 rfl) ?_
      obtain ⟨u_4, hu_4, hr⟩ := bd_e hr
      refine ro_V ⟨hx, hb, hml, hown, hts⟩ (k_X7_isItem l dC dI cI cJ a_o a_o_g a_o_kept a_o_was a_o_triangle a_o_text a_o_sort a_o_size a_o_items p0 p1 o_isKept o_takenBy o_fed o_place o_letter o_first o_second o_size u_4 hu_4) (cwV 2 hts gX7_item_X7_isItem rfl rfl rfl (by decide +kernel) ⟨Nat.le_of_ble_eq_true rfl, Nat.le_of_ble_eq_true rfl⟩) hE hP 0 rfl rfl rfl (hP.sub [0, 2] rfl) rfl hl.1 rfl (Nat.le_of_ble_eq_true rfl) dX7_item_25 ⟨Nat.zero_le _, Nat.zero_le _⟩ ?_
      refine lv_if_ne (tgt := 34) hx hb dX7_item_28 (by decide) (fun c_5 => ?_) (fun c_5 => ?_)
      · have hr := ite_n hr c_5
        refine lv_aload_n hx hb dX7_item_34 rfl (lv_at hl 0 rfl) ?_
        refine va_get (D := (dC, dI)) (ci := 6) (v := .ref a_o_items) (C := RX7) (T := TX7) (N := 15) hx hb hts iX7 hown hK hP 0 rfl rfl 14 (by decide) (hts (.fieldLink RX7 33 "PascalRowsModel" "items" "[J") (List.mem_of_getElem? (i := 2) rfl)) (fun _ h9 => h9) rfl dX7_item_35 ?_
        refine lv_bipush (v := (60 : Int32)) hx hb dX7_item_38 (by decide) ?_
        refine lv_iload_n hx hb dX7_item_40 rfl (lv_at hl 1 rfl) ?_
        refine lv_imul hx hb dX7_item_41 ?_
        refine lv_iload_n hx hb dX7_item_42 rfl (lv_at hl 2 rfl) ?_
        refine lv_iadd hx hb dX7_item_43 ?_
        refine lv_aload_n hx hb dX7_item_44 rfl (lv_at hl 0 rfl) ?_
        refine va_get (D := (dC, dI)) (ci := 6) (v := .ref a_o_sort) (C := RX7) (T := TX7) (N := 15) hx hb hts iX7 hown hK hP 0 rfl rfl 12 (by decide) (hts (.fieldLink RX7 27 "PascalRowsModel" "sort" "[I") (List.mem_of_getElem? (i := 1) rfl)) (fun _ h9 => h9) rfl dX7_item_45 ?_
        refine lv_iload_n hx hb dX7_item_48 rfl (lv_at hl 1 rfl) ?_
        obtain ⟨g_6, eg_6, hg_6, hr⟩ := rd_e hr
        refine va_iald hx hb hK hP 1 0 rfl rfl hg_6 dX7_item_49 ?_
        refine tp_ eg_6 ?_
        refine lv_lload_n hx hb dX7_item_50 rfl (lv_at hl 3 rfl) ?_
        obtain ⟨u_7, hu_7, hr⟩ := bd_e hr
        refine ro_S ⟨hx, hb, hml, hown, hts⟩ (k_X7_lies l dC dI cI cJ g_6 p2 u_7 hu_7) (va_cwS 2 hts gX7_item_X7_lies rfl rfl rfl (by decide +kernel) ⟨Nat.le_of_ble_eq_true rfl, Nat.le_of_ble_eq_true rfl⟩) hE (hP.sub [] rfl) rfl hl.1 rfl (Nat.le_of_ble_eq_true rfl) dX7_item_51 ⟨Nat.zero_le _, Nat.zero_le _⟩ ?_
        obtain ⟨w_8, ew_8, hw_8, hr⟩ := wrL_e hr
        refine va_last hx hb hK hP (hD.fst rfl) hS 3 1 rfl rfl hw_8 dX7_item_54 (fun H locs hP _ hS => ?_)
        rw [← ew_8] at hP
        have hP : va_P (dC, dI) vwCl [(a_o, .inr (6, [.ref a_o_g, .ref a_o_kept, .ref a_o_was, .int o_isKept, .ref a_o_triangle, .int o_takenBy, .ref a_o_text, .int o_fed, .int o_place, .int o_letter, .int o_first, .int o_second, .ref a_o_sort, .ref a_o_size, .ref a_o_items])), (a_o_sort, .inl (cI, 6, .inl o_sort)), (a_o_size, .inl (cI, 6, .inl o_size)), (a_o_items, .inl (cJ, 360, .inr (.inl w_8)))] H := hP
        refine lv_iconst (v := (1 : Int32)) hx hb dX7_item_55 (by decide) ?_
        obtain rfl := Option.some.inj hr
        exact hret H locs _ hP hS (fun Qc free hq hf => W.iret hx hb hrt hq hf dX7_item_56 hlocks)
      · have hr := ite_p hr c_5
        refine lv_bipush (v := (-13 : Int32)) hx hb dX7_item_31 (by decide) ?_
        obtain rfl := Option.some.inj hr
        exact hret H locs _ hP hS (fun Qc free hq hf => W.iret hx hb hrt hq hf dX7_item_33 hlocks)
    · have hr := ite_p hr c_3
      refine lv_bipush (v := (-11 : Int32)) hx hb dX7_item_19 (by decide) ?_
      obtain rfl := Option.some.inj hr
      exact hret H locs _ hP hS (fun Qc free hq hf => W.iret hx hb hrt hq hf dX7_item_21 hlocks)
  · have hr := ite_p hr c_1
    refine lv_iconst (v := (-1 : Int32)) hx hb dX7_item_7 (by decide) ?_
    obtain rfl := Option.some.inj hr
    exact hret H locs _ hP hS (fun Qc free hq hf => W.iret hx hb hrt hq hf dX7_item_8 hlocks)
/-! X7_peek -/
def rmX7_peek : Room := { frames := 2, cells := 0, slots := 0, locals := 47 }
set_option maxHeartbeats 4000000 in
set_option maxRecDepth 100000 in
theorem k_X7_peek (l : Launch) (dC : Nat → ClassId) (dI : Nat → Nat → Nat) (cI cJ : ClassId) (a_o : Nat) (a_o_g : Nat) (a_o_kept : Nat) (a_o_was : Nat) (a_o_triangle : Nat) (a_o_text : Nat) (a_o_sort : Nat) (a_o_size : Nat) (a_o_items : Nat) (p0 : Int32) (p1 : Int32) (o_isKept : Int32) (o_takenBy : Int32) (o_fed : Int32) (o_place : Int32) (o_letter : Int32) (o_first : Int32) (o_second : Int32) (o_size : Nat → Int32) (o_items : Nat → Int64) (r : Int64) (hr : f_X7_peek p0 p1 o_size o_items = some r) : Met l yX7_peek wsX7_peek rmX7_peek (va_Pc [.ref a_o, .int p0, .int p1] (pE (dC, dI) cI cJ [(a_o, .inr (6, [.ref a_o_g, .ref a_o_kept, .ref a_o_was, .int o_isKept, .ref a_o_triangle, .int o_takenBy, .ref a_o_text, .int o_fed, .int o_place, .int o_letter, .int o_first, .int o_second, .ref a_o_sort, .ref a_o_size, .ref a_o_items])), (a_o_size, .inl (cI, 6, .inl o_size)), (a_o_items, .inl (cJ, 360, .inr (.inl o_items)))])) (rq (.long r)) 0 0 nofree := by
  refine ro_of_l (cc := cX7_peek) (maxL := 3) (by decide) rfl (Nat.le_of_ble_eq_true rfl) ?_
  intro p e s m args below meth c Q ls hx hb hml hown hts hE hP hret hl
  have hK := hE.1
  have hl : lv_has ls 3 [(0, .ref a_o), (1, .int p0), (2, .int p1)] := hl
  unfold f_X7_peek at hr
  have iX7 : ∀ w ∈ wsX70, w ∈ wsX7_peek := memr_ (big := wsX7_peek) wsX70 [16, 17, 18, 19, 20, 21, 22, 23, 24, 25, 26, 27, 28, 29, 30] (by decide +kernel)
  refine lv_iload_n hx hb dX7_peek_0 rfl (lv_at hl 1 rfl) ?_
  refine ro_S ⟨hx, hb, hml, hown, hts⟩ (k_X7_isTape l dC dI cI cJ p0) (va_cwS 1 hts gX7_peek_X7_isTape rfl rfl rfl (by decide +kernel) ⟨Nat.le_of_ble_eq_true rfl, Nat.le_of_ble_eq_true rfl⟩) hE (hP.sub [] rfl) rfl hl.1 rfl (Nat.le_of_ble_eq_true rfl) dX7_peek_1 ⟨Nat.zero_le _, Nat.zero_le _⟩ ?_
  refine lv_if_eq (tgt := 30) hx hb dX7_peek_4 (by decide) (fun c_1 => ?_) (fun c_1 => ?_)
  · have hr := ite_p hr c_1
    refine lv_ldc2 (v := (-9223372036854775808 : Int64)) hx hb hown (hts (.constantLong RX7 185 (-9223372036854775808)) (List.mem_of_getElem? (i := 2) rfl)) dX7_peek_30 ?_
    exact hret 33 ls _ dX7_peek_33 (Option.some.inj hr)
  · have hr := ite_n hr c_1
    refine lv_aload_n hx hb dX7_peek_7 rfl (lv_at hl 0 rfl) ?_
    refine lv_iload_n hx hb dX7_peek_8 rfl (lv_at hl 1 rfl) ?_
    refine lv_iload_n hx hb dX7_peek_9 rfl (lv_at hl 2 rfl) ?_
    obtain ⟨u_2, hu_2, hr⟩ := bd_e hr
    refine ro_V ⟨hx, hb, hml, hown, hts⟩ (k_X7_isItem l dC dI cI cJ a_o a_o_g a_o_kept a_o_was a_o_triangle a_o_text a_o_sort a_o_size a_o_items p0 p1 o_isKept o_takenBy o_fed o_place o_letter o_first o_second o_size u_2 hu_2) (cwV 2 hts gX7_peek_X7_isItem rfl rfl rfl (by decide +kernel) ⟨Nat.le_of_ble_eq_true rfl, Nat.le_of_ble_eq_true rfl⟩) hE hP 0 rfl rfl rfl (hP.sub [0, 1] rfl) rfl hl.1 rfl (Nat.le_of_ble_eq_true rfl) dX7_peek_10 ⟨Nat.zero_le _, Nat.zero_le _⟩ ?_
    refine lv_if_eq (tgt := 30) hx hb dX7_peek_13 (by decide) (fun c_3 => ?_) (fun c_3 => ?_)
    · have hr := ite_p hr c_3
      refine lv_ldc2 (v := (-9223372036854775808 : Int64)) hx hb hown (hts (.constantLong RX7 185 (-9223372036854775808)) (List.mem_of_getElem? (i := 2) rfl)) dX7_peek_30 ?_
      exact hret 33 ls _ dX7_peek_33 (Option.some.inj hr)
    · have hr := ite_n hr c_3
      refine lv_aload_n hx hb dX7_peek_16 rfl (lv_at hl 0 rfl) ?_
      refine va_get (D := (dC, dI)) (ci := 6) (v := .ref a_o_items) (C := RX7) (T := TX7) (N := 15) hx hb hts iX7 hown hK hP 0 rfl rfl 14 (by decide) (hts (.fieldLink RX7 33 "PascalRowsModel" "items" "[J") (List.mem_of_getElem? (i := 1) rfl)) (fun _ h9 => h9) rfl dX7_peek_17 ?_
      refine lv_bipush (v := (60 : Int32)) hx hb dX7_peek_20 (by decide) ?_
      refine lv_iload_n hx hb dX7_peek_22 rfl (lv_at hl 1 rfl) ?_
      refine lv_imul hx hb dX7_peek_23 ?_
      refine lv_iload_n hx hb dX7_peek_24 rfl (lv_at hl 2 rfl) ?_
      refine lv_iadd hx hb dX7_peek_25 ?_
      obtain ⟨g_4, eg_4, hg_4, hr⟩ := rd_e hr
      refine va_lald hx hb hK hP 2 1 rfl rfl hg_4 dX7_peek_26 ?_
      refine tpl_ eg_4 ?_
      refine lv_goto (tgt := 33) hx hb dX7_peek_27 (by decide) ?_
      exact hret 33 ls _ dX7_peek_33 (Option.some.inj hr)
/-! X7_shift -/
def rmX7_shift : Room := { frames := 2, cells := 0, slots := 0, locals := 45 }
set_option maxHeartbeats 4000000 in
set_option maxRecDepth 100000 in
theorem k_X7_shift (l : Launch) (dC : Nat → ClassId) (dI : Nat → Nat → Nat) (cI cJ : ClassId) (a_o : Nat) (a_o_g : Nat) (a_o_kept : Nat) (a_o_was : Nat) (a_o_triangle : Nat) (a_o_text : Nat) (a_o_sort : Nat) (a_o_size : Nat) (a_o_items : Nat) (p0 : Int32) (p1 : Int32) (p2 : Int32) (p3 : Int32) (p4 : Int32) (o_isKept : Int32) (o_takenBy : Int32) (o_fed : Int32) (o_place : Int32) (o_letter : Int32) (o_first : Int32) (o_second : Int32) (o_sort : Nat → Int32) (o_size : Nat → Int32) (o_items : Nat → Int64) (sz : Nat) (r : Int32 × (Nat → Int64)) (hr : f_X7_shift p0 p1 p2 p3 p4 o_sort o_size o_items = some r) : Met l yX7_shift wsX7_shift rmX7_shift (va_Pc [.ref a_o, .int p0, .int p1, .int p2, .int p3, .int p4] (pM (dC, dI) cI cJ [(a_o, .inr (6, [.ref a_o_g, .ref a_o_kept, .ref a_o_was, .int o_isKept, .ref a_o_triangle, .int o_takenBy, .ref a_o_text, .int o_fed, .int o_place, .int o_letter, .int o_first, .int o_second, .ref a_o_sort, .ref a_o_size, .ref a_o_items])), (a_o_sort, .inl (cI, 6, .inl o_sort)), (a_o_size, .inl (cI, 6, .inl o_size)), (a_o_items, .inl (cJ, 360, .inr (.inl o_items)))] sz)) (qM (some (.int r.1)) (dC, dI) [(a_o, .inr (6, [.ref a_o_g, .ref a_o_kept, .ref a_o_was, .int o_isKept, .ref a_o_triangle, .int o_takenBy, .ref a_o_text, .int o_fed, .int o_place, .int o_letter, .int o_first, .int o_second, .ref a_o_sort, .ref a_o_size, .ref a_o_items])), (a_o_sort, .inl (cI, 6, .inl o_sort)), (a_o_size, .inl (cI, 6, .inl o_size)), (a_o_items, .inl (cJ, 360, .inr (.inl r.2)))] (va_A [(a_o, .inr (6, [.ref a_o_g, .ref a_o_kept, .ref a_o_was, .int o_isKept, .ref a_o_triangle, .int o_takenBy, .ref a_o_text, .int o_fed, .int o_place, .int o_letter, .int o_first, .int o_second, .ref a_o_sort, .ref a_o_size, .ref a_o_items])), (a_o_sort, .inl (cI, 6, .inl o_sort)), (a_o_size, .inl (cI, 6, .inl o_size)), (a_o_items, .inl (cJ, 360, .inr (.inl o_items)))] sz)) 0 0 (va_A [(a_o, .inr (6, [.ref a_o_g, .ref a_o_kept, .ref a_o_was, .int o_isKept, .ref a_o_triangle, .int o_takenBy, .ref a_o_text, .int o_fed, .int o_place, .int o_letter, .int o_first, .int o_second, .ref a_o_sort, .ref a_o_size, .ref a_o_items])), (a_o_sort, .inl (cI, 6, .inl o_sort)), (a_o_size, .inl (cI, 6, .inl o_size)), (a_o_items, .inl (cJ, 360, .inr (.inl o_items)))] sz) := by
  refine mu_of (cc := cX7_shift) (maxL := 8) (by decide) rfl (Nat.le_of_ble_eq_true rfl) ?_
  intro p e s m args below meth c Q ls A hx hb hml hown hts hE hP hD hA hrt hlocks hret hl
  have hK := hE.1
  have hS : va_S A s.heap s.heap [] := va_S.rf
  have hl : lv_has ls 8 [(0, .ref a_o), (1, .int p0), (2, .int p1), (3, .int p2), (4, .int p3), (5, .int p4)] := hl
  unfold f_X7_shift at hr
  obtain ⟨H, hHe⟩ : ∃ H, H = s.heap := ⟨_, rfl⟩
  obtain ⟨locs, hLe⟩ : ∃ locs : List Loc, locs = [] := ⟨_, rfl⟩
  suffices hgo : va_P (dC, dI) vwCl [(a_o, .inr (6, [.ref a_o_g, .ref a_o_kept, .ref a_o_was, .int o_isKept, .ref a_o_triangle, .int o_takenBy, .ref a_o_text, .int o_fed, .int o_place, .int o_letter, .int o_first, .int o_second, .ref a_o_sort, .ref a_o_size, .ref a_o_items])), (a_o_sort, .inl (cI, 6, .inl o_sort)), (a_o_size, .inl (cI, 6, .inl o_size)), (a_o_items, .inl (cJ, 360, .inr (.inl o_items)))] H → va_S A s.heap H locs → W p l e rmX7_shift s m args below meth c H locs 0 0 Q (F0 m 0 ls []) by
    subst hHe; subst hLe; exact hgo hP hS
  clear hP hS hHe hLe
  intro hP hS
  have iX7 : ∀ w ∈ wsX70, w ∈ wsX7_shift := memr_ (big := wsX7_shift) wsX70 [12, 13, 14, 15, 16, 17, 18, 19, 20, 21, 22, 23, 24, 25, 26] (by decide +kernel)
  refine lv_iload_n hx hb dX7_shift_0 rfl (lv_at hl 1 rfl) ?_
  refine ro_S ⟨hx, hb, hml, hown, hts⟩ (k_X7_isTape l dC dI cI cJ p0) (va_cwS 1 hts gX7_shift_X7_isTape rfl rfl rfl (by decide +kernel) ⟨Nat.le_of_ble_eq_true rfl, Nat.le_of_ble_eq_true rfl⟩) hE (hP.sub [] rfl) rfl hl.1 rfl (Nat.le_of_ble_eq_true rfl) dX7_shift_1 ⟨Nat.zero_le _, Nat.zero_le _⟩ ?_
  have tT_2 : (((f_X7_isTape p0) = 0) ∨ ((f_X7_isTape p2) = 0)) → W p l e rmX7_shift s m args below meth c H locs 0 0 Q (F0 m 14 ls []) := by
    intro hc_1
    have hr := ite_p hr hc_1
    refine lv_iconst (v := (-1 : Int32)) hx hb dX7_shift_14 (by decide) ?_
    obtain rfl := Option.some.inj hr
    exact hret H locs _ hP hS (fun Qc free hq hf => W.iret hx hb hrt hq hf dX7_shift_15 hlocks)
  have tF_3 : ¬ (((f_X7_isTape p0) = 0) ∨ ((f_X7_isTape p2) = 0)) → W p l e rmX7_shift s m args below meth c H locs 0 0 Q (F0 m 16 ls []) := by
    intro hc_1
    have hr := ite_n hr hc_1
    refine lv_aload_n hx hb dX7_shift_16 rfl (lv_at hl 0 rfl) ?_
    refine va_get (D := (dC, dI)) (ci := 6) (v := .ref a_o_sort) (C := RX7) (T := TX7) (N := 15) hx hb hts iX7 hown hK hP 0 rfl rfl 12 (by decide) (hts (.fieldLink RX7 27 "PascalRowsModel" "sort" "[I") (List.mem_of_getElem? (i := 1) rfl)) (fun _ h9 => h9) rfl dX7_shift_17 ?_
    refine lv_iload_n hx hb dX7_shift_20 rfl (lv_at hl 1 rfl) ?_
    obtain ⟨g_4, eg_4, hg_4, hr⟩ := rd_e hr
    refine va_iald hx hb hK hP 1 0 rfl rfl hg_4 dX7_shift_21 ?_
    refine tp_ eg_4 ?_
    refine lv_iconst (v := (-1 : Int32)) hx hb dX7_shift_22 (by decide) ?_
    refine lv_icmp_eq (tgt := 36) hx hb dX7_shift_23 (by decide) (fun c_5 => ?_) (fun c_5 => ?_)
    · have hr := ite_p hr c_5
      refine lv_bipush (v := (-11 : Int32)) hx hb dX7_shift_36 (by decide) ?_
      obtain rfl := Option.some.inj hr
      exact hret H locs _ hP hS (fun Qc free hq hf => W.iret hx hb hrt hq hf dX7_shift_38 hlocks)
    · have hr := ite_n hr c_5
      refine lv_aload_n hx hb dX7_shift_26 rfl (lv_at hl 0 rfl) ?_
      refine va_get (D := (dC, dI)) (ci := 6) (v := .ref a_o_sort) (C := RX7) (T := TX7) (N := 15) hx hb hts iX7 hown hK hP 0 rfl rfl 12 (by decide) (hts (.fieldLink RX7 27 "PascalRowsModel" "sort" "[I") (List.mem_of_getElem? (i := 1) rfl)) (fun _ h9 => h9) rfl dX7_shift_27 ?_
      refine lv_iload_n hx hb dX7_shift_30 rfl (lv_at hl 3 rfl) ?_
      obtain ⟨g_6, eg_6, hg_6, hr⟩ := rd_e hr
      refine va_iald hx hb hK hP 1 0 rfl rfl hg_6 dX7_shift_31 ?_
      refine tp_ eg_6 ?_
      refine lv_iconst (v := (-1 : Int32)) hx hb dX7_shift_32 (by decide) ?_
      refine lv_icmp_ne (tgt := 39) hx hb dX7_shift_33 (by decide) (fun c_7 => ?_) (fun c_7 => ?_)
      · have hr := ite_n hr c_7
        refine lv_aload_n hx hb dX7_shift_39 rfl (lv_at hl 0 rfl) ?_
        refine va_get (D := (dC, dI)) (ci := 6) (v := .ref a_o_sort) (C := RX7) (T := TX7) (N := 15) hx hb hts iX7 hown hK hP 0 rfl rfl 12 (by decide) (hts (.fieldLink RX7 27 "PascalRowsModel" "sort" "[I") (List.mem_of_getElem? (i := 1) rfl)) (fun _ h9 => h9) rfl dX7_shift_40 ?_
        refine lv_iload_n hx hb dX7_shift_43 rfl (lv_at hl 1 rfl) ?_
        obtain ⟨g_8, eg_8, hg_8, hr⟩ := rd_e hr
        refine va_iald hx hb hK hP 1 0 rfl rfl hg_8 dX7_shift_44 ?_
        refine tp_ eg_8 ?_
        refine lv_aload_n hx hb dX7_shift_45 rfl (lv_at hl 0 rfl) ?_
        refine va_get (D := (dC, dI)) (ci := 6) (v := .ref a_o_sort) (C := RX7) (T := TX7) (N := 15) hx hb hts iX7 hown hK hP 0 rfl rfl 12 (by decide) (hts (.fieldLink RX7 27 "PascalRowsModel" "sort" "[I") (List.mem_of_getElem? (i := 1) rfl)) (fun _ h9 => h9) rfl dX7_shift_46 ?_
        refine lv_iload_n hx hb dX7_shift_49 rfl (lv_at hl 3 rfl) ?_
        obtain ⟨g_9, eg_9, hg_9, hr⟩ := rd_e hr
        refine va_iald hx hb hK hP 1 0 rfl rfl hg_9 dX7_shift_50 ?_
        refine tp_ eg_9 ?_
        refine lv_icmp_eq (tgt := 57) hx hb dX7_shift_51 (by decide) (fun c_10 => ?_) (fun c_10 => ?_)
        · have hr := ite_p hr c_10
          refine lv_iload hx hb dX7_shift_57 (lv_at hl 5 rfl) ?_
          have tT_12 : ((¬ (p4 < 0)) ∧ ((¬ (p1 < 0)) ∧ (¬ (p3 < 0)))) → W p l e rmX7_shift s m args below meth c H locs 0 0 Q (F0 m 71 ls []) := by
            intro hc_11
            have hr := ite_p hr hc_11
            refine lv_iload hx hb dX7_shift_71 (lv_at hl 5 rfl) ?_
            refine lv_aload_n hx hb dX7_shift_73 rfl (lv_at hl 0 rfl) ?_
            refine va_get (D := (dC, dI)) (ci := 6) (v := .ref a_o_size) (C := RX7) (T := TX7) (N := 15) hx hb hts iX7 hown hK hP 0 rfl rfl 13 (by decide) (hts (.fieldLink RX7 30 "PascalRowsModel" "size" "[I") (List.mem_of_getElem? (i := 2) rfl)) (fun _ h9 => h9) rfl dX7_shift_74 ?_
            refine lv_iload_n hx hb dX7_shift_77 rfl (lv_at hl 1 rfl) ?_
            obtain ⟨g_13, eg_13, hg_13, hr⟩ := rd_e hr
            refine va_iald hx hb hK hP 2 0 rfl rfl hg_13 dX7_shift_78 ?_
            refine tp_ eg_13 ?_
            refine lv_iload_n hx hb dX7_shift_79 rfl (lv_at hl 2 rfl) ?_
            refine lv_isub hx hb dX7_shift_80 ?_
            refine lv_icmp_gt (tgt := 98) hx hb dX7_shift_81 (by decide) (fun c_14 => ?_) (fun c_14 => ?_)
            · have hr := ite_p hr c_14
              refine lv_bipush (v := (-13 : Int32)) hx hb dX7_shift_98 (by decide) ?_
              obtain rfl := Option.some.inj hr
              exact hret H locs _ hP hS (fun Qc free hq hf => W.iret hx hb hrt hq hf dX7_shift_100 hlocks)
            · have hr := ite_n hr c_14
              refine lv_iload hx hb dX7_shift_84 (lv_at hl 5 rfl) ?_
              refine lv_aload_n hx hb dX7_shift_86 rfl (lv_at hl 0 rfl) ?_
              refine va_get (D := (dC, dI)) (ci := 6) (v := .ref a_o_size) (C := RX7) (T := TX7) (N := 15) hx hb hts iX7 hown hK hP 0 rfl rfl 13 (by decide) (hts (.fieldLink RX7 30 "PascalRowsModel" "size" "[I") (List.mem_of_getElem? (i := 2) rfl)) (fun _ h9 => h9) rfl dX7_shift_87 ?_
              refine lv_iload_n hx hb dX7_shift_90 rfl (lv_at hl 3 rfl) ?_
              obtain ⟨g_15, eg_15, hg_15, hr⟩ := rd_e hr
              refine va_iald hx hb hK hP 2 0 rfl rfl hg_15 dX7_shift_91 ?_
              refine tp_ eg_15 ?_
              refine lv_iload hx hb dX7_shift_92 (lv_at hl 4 rfl) ?_
              refine lv_isub hx hb dX7_shift_94 ?_
              refine lv_icmp_le (tgt := 101) hx hb dX7_shift_95 (by decide) (fun c_16 => ?_) (fun c_16 => ?_)
              · have hr := ite_p hr c_16
                refine lv_iconst (v := (0 : Int32)) hx hb dX7_shift_101 (by decide) ?_
                refine lv_istore (lv' := [(6, .int (0 : Int32)), (0, .ref a_o), (1, .int p0), (2, .int p1), (3, .int p2), (4, .int p3), (5, .int p4)]) hx hb dX7_shift_102 hl (by decide) rfl (fun ls hl => ?_)
                have hL104 : ∀ (v1_104 : Int32) (v2_104 : Int32) (v3_104 : Int32) (v4_104 : Int32) (v5_104 : Int32) (k_104 : (Nat → Int64) → Option (Int32 × (Nat → Int64))) (hk : ∀ (xc_o_items_104 : Nat → Int64) (ls : Array Slot), lv_has ls 8 [(5, .int v5_104)] → ∀ (H : Heap) (locs : List Loc), va_P (dC, dI) vwCl [(a_o, .inr (6, [.ref a_o_g, .ref a_o_kept, .ref a_o_was, .int o_isKept, .ref a_o_triangle, .int o_takenBy, .ref a_o_text, .int o_fed, .int o_place, .int o_letter, .int o_first, .int o_second, .ref a_o_sort, .ref a_o_size, .ref a_o_items])), (a_o_sort, .inl (cI, 6, .inl o_sort)), (a_o_size, .inl (cI, 6, .inl o_size)), (a_o_items, .inl (cJ, 360, .inr (.inl xc_o_items_104)))] H → va_S A s.heap H locs →  k_104 xc_o_items_104 = some r → W p l e rmX7_shift s m args below meth c H locs 0 0 Q (F0 m 166 ls [])) (fuel : Nat) (v6_104 : Int32) (o_items_104 : Nat → Int64) (ls : Array Slot), lv_has ls 8 [(0, .ref a_o), (1, .int v1_104), (2, .int v2_104), (3, .int v3_104), (4, .int v4_104), (5, .int v5_104), (6, .int v6_104)] → ∀ (H : Heap) (locs : List Loc), va_P (dC, dI) vwCl [(a_o, .inr (6, [.ref a_o_g, .ref a_o_kept, .ref a_o_was, .int o_isKept, .ref a_o_triangle, .int o_takenBy, .ref a_o_text, .int o_fed, .int o_place, .int o_letter, .int o_first, .int o_second, .ref a_o_sort, .ref a_o_size, .ref a_o_items])), (a_o_sort, .inl (cI, 6, .inl o_sort)), (a_o_size, .inl (cI, 6, .inl o_size)), (a_o_items, .inl (cJ, 360, .inr (.inl o_items_104)))] H → va_S A s.heap H locs → f_X7_shift_L104 k_104 v1_104 v2_104 v3_104 v4_104 v5_104 fuel v6_104 o_items_104 = some r → W p l e rmX7_shift s m args below meth c H locs 0 0 Q (F0 m 104 ls []) := by
                  intro v1_104 v2_104 v3_104 v4_104 v5_104 k_104 hk fuel
                  induction fuel with
                  | zero =>
                    intro v6_104 o_items_104 ls hl H locs hP hS hr
                    rw [f_X7_shift_L104_z] at hr
                    cases hr
                  | succ fuel ih =>
                    intro v6_104 o_items_104 ls hl H locs hP hS hr
                    rw [f_X7_shift_L104_s] at hr
                    refine lv_iload hx hb dX7_shift_104 (lv_at hl 6 rfl) ?_
                    refine lv_iload hx hb dX7_shift_106 (lv_at hl 5 rfl) ?_
                    refine lv_icmp_ge (tgt := 166) hx hb dX7_shift_108 (by decide) (fun c_17 => ?_) (fun c_17 => ?_)
                    · have hr := ite_p hr c_17
                      exact hk o_items_104 ls (lv_sub hl [5] rfl) H locs hP hS hr
                    · have hr := ite_n hr c_17
                      refine lv_iload_n hx hb dX7_shift_111 rfl (lv_at hl 2 rfl) ?_
                      refine lv_iload hx hb dX7_shift_112 (lv_at hl 4 rfl) ?_
                      have hJ_18 : ∀ (y_19 : Int32) (ey_19 : y_19 = (if (v2_104 ≤ v4_104) then ((v5_104 - (1 : Int32)) - v6_104) else v6_104)) (ls : Array Slot), lv_has ls 8 [(0, .ref a_o), (1, .int v1_104), (2, .int v2_104), (3, .int v3_104), (4, .int v4_104), (5, .int v5_104), (6, .int v6_104)] → W p l e rmX7_shift s m args below meth c H locs 0 0 Q (F0 m 129 ls [.int y_19]) := by
                        intro y_19 ey_19 ls hl
                        have hr := qn_e hr ey_19
                        refine lv_istore (lv' := [(7, .int y_19), (0, .ref a_o), (1, .int v1_104), (2, .int v2_104), (3, .int v3_104), (4, .int v4_104), (5, .int v5_104), (6, .int v6_104)]) hx hb dX7_shift_129 hl (by decide) rfl (fun ls hl => ?_)
                        refine lv_aload_n hx hb dX7_shift_131 rfl (lv_at hl 1 rfl) ?_
                        refine va_get (D := (dC, dI)) (ci := 6) (v := .ref a_o_items) (C := RX7) (T := TX7) (N := 15) hx hb hts iX7 hown hK hP 0 rfl rfl 14 (by decide) (hts (.fieldLink RX7 33 "PascalRowsModel" "items" "[J") (List.mem_of_getElem? (i := 3) rfl)) (fun _ h9 => h9) rfl dX7_shift_132 ?_
                        refine lv_bipush (v := (60 : Int32)) hx hb dX7_shift_135 (by decide) ?_
                        refine lv_iload_n hx hb dX7_shift_137 rfl (lv_at hl 4 rfl) ?_
                        refine lv_imul hx hb dX7_shift_138 ?_
                        refine lv_iload hx hb dX7_shift_139 (lv_at hl 5 rfl) ?_
                        refine lv_iadd hx hb dX7_shift_141 ?_
                        refine lv_iload hx hb dX7_shift_142 (lv_at hl 0 rfl) ?_
                        refine lv_iadd hx hb dX7_shift_144 ?_
                        refine lv_aload_n hx hb dX7_shift_145 rfl (lv_at hl 1 rfl) ?_
                        refine va_get (D := (dC, dI)) (ci := 6) (v := .ref a_o_items) (C := RX7) (T := TX7) (N := 15) hx hb hts iX7 hown hK hP 0 rfl rfl 14 (by decide) (hts (.fieldLink RX7 33 "PascalRowsModel" "items" "[J") (List.mem_of_getElem? (i := 3) rfl)) (fun _ h9 => h9) rfl dX7_shift_146 ?_
                        refine lv_bipush (v := (60 : Int32)) hx hb dX7_shift_149 (by decide) ?_
                        refine lv_iload_n hx hb dX7_shift_151 rfl (lv_at hl 2 rfl) ?_
                        refine lv_imul hx hb dX7_shift_152 ?_
                        refine lv_iload_n hx hb dX7_shift_153 rfl (lv_at hl 3 rfl) ?_
                        refine lv_iadd hx hb dX7_shift_154 ?_
                        refine lv_iload hx hb dX7_shift_155 (lv_at hl 0 rfl) ?_
                        refine lv_iadd hx hb dX7_shift_157 ?_
                        obtain ⟨g_20, eg_20, hg_20, hr⟩ := rd_e hr
                        refine va_lald hx hb hK hP 3 1 rfl rfl hg_20 dX7_shift_158 ?_
                        refine tpl_ eg_20 ?_
                        obtain ⟨w_21, ew_21, hw_21, hr⟩ := wrL_e hr
                        refine va_last hx hb hK hP (hD.fst rfl) hS 3 1 rfl rfl hw_21 dX7_shift_159 (fun H locs hP _ hS => ?_)
                        rw [← ew_21] at hP
                        have hP : va_P (dC, dI) vwCl [(a_o, .inr (6, [.ref a_o_g, .ref a_o_kept, .ref a_o_was, .int o_isKept, .ref a_o_triangle, .int o_takenBy, .ref a_o_text, .int o_fed, .int o_place, .int o_letter, .int o_first, .int o_second, .ref a_o_sort, .ref a_o_size, .ref a_o_items])), (a_o_sort, .inl (cI, 6, .inl o_sort)), (a_o_size, .inl (cI, 6, .inl o_size)), (a_o_items, .inl (cJ, 360, .inr (.inl w_21)))] H := hP
                        refine lv_iinc (v := (v6_104 + (1 : Int32))) (lv' := [(6, .int (v6_104 + (1 : Int32))), (7, .int y_19), (0, .ref a_o), (1, .int v1_104), (2, .int v2_104), (3, .int v3_104), (4, .int v4_104), (5, .int v5_104)]) hx hb dX7_shift_160 hl (k := 7) rfl (congrArg (fun z => v6_104 + z) (by decide)) (by decide) rfl (fun ls hl => ?_)
                        refine lv_goto (tgt := 104) hx hb dX7_shift_163 (by decide) ?_
                        exact ih (v6_104 + (1 : Int32)) w_21 ls (lv_sub hl [2, 3, 4, 5, 6, 7, 0] rfl) H locs hP hS hr
                      refine lv_icmp_le (tgt := 122) hx hb dX7_shift_114 (by decide) (fun c_22 => ?_) (fun c_22 => ?_)
                      · refine lv_iload hx hb dX7_shift_122 (lv_at hl 5 rfl) ?_
                        refine lv_iconst (v := (1 : Int32)) hx hb dX7_shift_124 (by decide) ?_
                        refine lv_isub hx hb dX7_shift_125 ?_
                        refine lv_iload hx hb dX7_shift_126 (lv_at hl 6 rfl) ?_
                        refine lv_isub hx hb dX7_shift_128 ?_
                        exact hJ_18 _ (if_pos c_22).symm ls (lv_sub hl [0, 1, 2, 3, 4, 5, 6] rfl)
                      · refine lv_iload hx hb dX7_shift_117 (lv_at hl 6 rfl) ?_
                        refine lv_goto (tgt := 129) hx hb dX7_shift_119 (by decide) ?_
                        exact hJ_18 _ (if_neg c_22).symm ls (lv_sub hl [0, 1, 2, 3, 4, 5, 6] rfl)
                refine hL104 p0 p1 p2 p3 p4 _ (fun xc_o_items_104 ls hl H locs hP hS hr => ?_) 5000 (0 : Int32) o_items ls (lv_sub hl [1, 2, 3, 4, 5, 6, 0] rfl) H locs hP hS hr
                refine lv_iload hx hb dX7_shift_166 (lv_at hl 0 rfl) ?_
                obtain rfl := Option.some.inj hr
                exact hret H locs _ hP hS (fun Qc free hq hf => W.iret hx hb hrt hq hf dX7_shift_168 hlocks)
              · have hr := ite_n hr c_16
                refine lv_bipush (v := (-13 : Int32)) hx hb dX7_shift_98 (by decide) ?_
                obtain rfl := Option.some.inj hr
                exact hret H locs _ hP hS (fun Qc free hq hf => W.iret hx hb hrt hq hf dX7_shift_100 hlocks)
          have tF_23 : ¬ ((¬ (p4 < 0)) ∧ ((¬ (p1 < 0)) ∧ (¬ (p3 < 0)))) → W p l e rmX7_shift s m args below meth c H locs 0 0 Q (F0 m 98 ls []) := by
            intro hc_11
            have hr := ite_n hr hc_11
            refine lv_bipush (v := (-13 : Int32)) hx hb dX7_shift_98 (by decide) ?_
            obtain rfl := Option.some.inj hr
            exact hret H locs _ hP hS (fun Qc free hq hf => W.iret hx hb hrt hq hf dX7_shift_100 hlocks)
          refine lv_if_lt (tgt := 98) hx hb dX7_shift_59 (by decide) (fun c_24 => ?_) (fun c_24 => ?_)
          · exact tF_23 (fun h => (fun h => h c_24) h.1)
          · refine lv_iload_n hx hb dX7_shift_62 rfl (lv_at hl 2 rfl) ?_
            refine lv_if_lt (tgt := 98) hx hb dX7_shift_63 (by decide) (fun c_25 => ?_) (fun c_25 => ?_)
            · exact tF_23 (fun h => (fun h => (fun h => h c_25) h.1) h.2)
            · refine lv_iload hx hb dX7_shift_66 (lv_at hl 4 rfl) ?_
              refine lv_if_lt (tgt := 98) hx hb dX7_shift_68 (by decide) (fun c_26 => ?_) (fun c_26 => ?_)
              · exact tF_23 (fun h => (fun h => (fun h => h c_26) h.2) h.2)
              · exact tT_12 ⟨c_24, ⟨c_25, c_26⟩⟩
        · have hr := ite_n hr c_10
          refine lv_bipush (v := (-12 : Int32)) hx hb dX7_shift_54 (by decide) ?_
          obtain rfl := Option.some.inj hr
          exact hret H locs _ hP hS (fun Qc free hq hf => W.iret hx hb hrt hq hf dX7_shift_56 hlocks)
      · have hr := ite_p hr c_7
        refine lv_bipush (v := (-11 : Int32)) hx hb dX7_shift_36 (by decide) ?_
        obtain rfl := Option.some.inj hr
        exact hret H locs _ hP hS (fun Qc free hq hf => W.iret hx hb hrt hq hf dX7_shift_38 hlocks)
  refine lv_if_eq (tgt := 14) hx hb dX7_shift_4 (by decide) (fun c_27 => ?_) (fun c_27 => ?_)
  · exact tT_2 (Or.inl c_27)
  · refine lv_iload_n hx hb dX7_shift_7 rfl (lv_at hl 3 rfl) ?_
    refine ro_S ⟨hx, hb, hml, hown, hts⟩ (k_X7_isTape l dC dI cI cJ p2) (va_cwS 1 hts gX7_shift_X7_isTape rfl rfl rfl (by decide +kernel) ⟨Nat.le_of_ble_eq_true rfl, Nat.le_of_ble_eq_true rfl⟩) hE (hP.sub [] rfl) rfl hl.1 rfl (Nat.le_of_ble_eq_true rfl) dX7_shift_8 ⟨Nat.zero_le _, Nat.zero_le _⟩ ?_
    refine lv_if_ne (tgt := 16) hx hb dX7_shift_11 (by decide) (fun c_28 => ?_) (fun c_28 => ?_)
    · exact tF_3 (fun h => h.elim c_27 c_28)
    · exact tT_2 (Or.inr c_28)
