/-! X7_readsClause -/
def rmX7_readsClause : Room := { frames := 2, cells := 0, slots := 0, locals := 48 }
set_option maxHeartbeats 4000000 in
set_option maxRecDepth 100000 in
theorem k_X7_readsClause (l : Launch) (dC : Nat → ClassId) (dI : Nat → Nat → Nat) (cI cJ : ClassId) (a_o : Nat) (a_o_g : Nat) (a_o_kept : Nat) (a_o_was : Nat) (a_o_triangle : Nat) (a_o_text : Nat) (a_o_sort : Nat) (a_o_size : Nat) (a_o_items : Nat) (o_isKept : Int32) (o_takenBy : Int32) (o_fed : Int32) (o_place : Int32) (o_letter : Int32) (o_first : Int32) (o_second : Int32) (o_text : Nat → Int32) (sz : Nat) (r : Int32 × Int32 × Int32 × Int32 × Int32) (hr : f_X7_readsClause o_text o_fed o_place o_letter o_first o_second = some r) : Met l yX7_readsClause wsX7_readsClause rmX7_readsClause (va_Pc [.ref a_o] (pM (dC, dI) cI cJ [(a_o, .inr (6, [.ref a_o_g, .ref a_o_kept, .ref a_o_was, .int o_isKept, .ref a_o_triangle, .int o_takenBy, .ref a_o_text, .int o_fed, .int o_place, .int o_letter, .int o_first, .int o_second, .ref a_o_sort, .ref a_o_size, .ref a_o_items])), (a_o_text, .inl (cI, 100, .inl o_text))] sz)) (qM (some (.int r.1)) (dC, dI) [(a_o, .inr (6, [.ref a_o_g, .ref a_o_kept, .ref a_o_was, .int o_isKept, .ref a_o_triangle, .int o_takenBy, .ref a_o_text, .int o_fed, .int r.2.1, .int r.2.2.1, .int r.2.2.2.1, .int r.2.2.2.2, .ref a_o_sort, .ref a_o_size, .ref a_o_items])), (a_o_text, .inl (cI, 100, .inl o_text))] (va_A [(a_o, .inr (6, [.ref a_o_g, .ref a_o_kept, .ref a_o_was, .int o_isKept, .ref a_o_triangle, .int o_takenBy, .ref a_o_text, .int o_fed, .int o_place, .int o_letter, .int o_first, .int o_second, .ref a_o_sort, .ref a_o_size, .ref a_o_items])), (a_o_text, .inl (cI, 100, .inl o_text))] sz)) 0 0 (va_A [(a_o, .inr (6, [.ref a_o_g, .ref a_o_kept, .ref a_o_was, .int o_isKept, .ref a_o_triangle, .int o_takenBy, .ref a_o_text, .int o_fed, .int o_place, .int o_letter, .int o_first, .int o_second, .ref a_o_sort, .ref a_o_size, .ref a_o_items])), (a_o_text, .inl (cI, 100, .inl o_text))] sz) := by
  refine mu_of (cc := cX7_readsClause) (maxL := 1) (by decide) rfl (Nat.le_of_ble_eq_true rfl) ?_
  intro p e s m args below meth c Q ls A hx hb hml hown hts hE hP hD hA hrt hlocks hret hl
  have hK := hE.1
  have hS : va_S A s.heap s.heap [] := va_S.rf
  have hl : lv_has ls 1 [(0, .ref a_o)] := hl
  unfold f_X7_readsClause at hr
  obtain ⟨H, hHe⟩ : ∃ H, H = s.heap := ⟨_, rfl⟩
  obtain ⟨locs, hLe⟩ : ∃ locs : List Loc, locs = [] := ⟨_, rfl⟩
  suffices hgo : va_P (dC, dI) vwCl [(a_o, .inr (6, [.ref a_o_g, .ref a_o_kept, .ref a_o_was, .int o_isKept, .ref a_o_triangle, .int o_takenBy, .ref a_o_text, .int o_fed, .int o_place, .int o_letter, .int o_first, .int o_second, .ref a_o_sort, .ref a_o_size, .ref a_o_items])), (a_o_text, .inl (cI, 100, .inl o_text))] H → va_S A s.heap H locs → W p l e rmX7_readsClause s m args below meth c H locs 0 0 Q (F0 m 0 ls []) by
    subst hHe; subst hLe; exact hgo hP hS
  clear hP hS hHe hLe
  intro hP hS
  have iX7 : ∀ w ∈ wsX70, w ∈ wsX7_readsClause := memr_ (big := wsX7_readsClause) wsX70 [21, 22, 23, 24, 25, 26, 27, 28, 29, 30, 31, 32, 33, 34, 35] (by decide +kernel)
  refine lv_aload_n hx hb dX7_readsClause_0 rfl (lv_at hl 0 rfl) ?_
  refine lv_aload_n hx hb dX7_readsClause_1 rfl (lv_at hl 0 rfl) ?_
  obtain ⟨u_1, hu_1, hr⟩ := bd_e hr
  refine ro_V ⟨hx, hb, hml, hown, hts⟩ (k_X7_here l dC dI cI cJ a_o a_o_g a_o_kept a_o_was a_o_triangle a_o_text a_o_sort a_o_size a_o_items o_isKept o_takenBy o_fed o_place o_letter o_first o_second o_text u_1 hu_1) (cwV 0 hts gX7_readsClause_X7_here rfl rfl rfl (by decide +kernel) ⟨Nat.le_of_ble_eq_true rfl, Nat.le_of_ble_eq_true rfl⟩) hE hP 0 rfl rfl rfl (hP.sub [0, 1] rfl) rfl hl.1 rfl (Nat.le_of_ble_eq_true rfl) dX7_readsClause_2 ⟨Nat.zero_le _, Nat.zero_le _⟩ ?_
  refine va_put (D := (dC, dI)) (ci := 6) (v := .int u_1) (ty := .int) (C := RX7) (T := TX7) (N := 15) hx hb hts iX7 tyX7 tyX7_ok nmX7 hown hK hP (hD.fst rfl) hS 0 rfl rfl 9 (by decide) (hts (.fieldLink RX7 112 "PascalRowsModel" "letter" "I") (List.mem_of_getElem? (i := 1) rfl)) (fun _ h9 => h9) rfl (by decide +kernel) rfl rfl (Nat.le_of_ble_eq_true rfl) dX7_readsClause_5 (fun H locs hP _ hS => ?_)
  have hP : va_P (dC, dI) vwCl [(a_o, .inr (6, [.ref a_o_g, .ref a_o_kept, .ref a_o_was, .int o_isKept, .ref a_o_triangle, .int o_takenBy, .ref a_o_text, .int o_fed, .int o_place, .int u_1, .int o_first, .int o_second, .ref a_o_sort, .ref a_o_size, .ref a_o_items])), (a_o_text, .inl (cI, 100, .inl o_text))] H := hP
  refine lv_aload_n hx hb dX7_readsClause_8 rfl (lv_at hl 0 rfl) ?_
  refine va_get (D := (dC, dI)) (ci := 6) (v := .int u_1) (C := RX7) (T := TX7) (N := 15) hx hb hts iX7 hown hK hP 0 rfl rfl 9 (by decide) (hts (.fieldLink RX7 112 "PascalRowsModel" "letter" "I") (List.mem_of_getElem? (i := 1) rfl)) (fun _ h9 => h9) rfl dX7_readsClause_9 ?_
  refine lv_bipush (v := (112 : Int32)) hx hb dX7_readsClause_12 (by decide) ?_
  have tT_3 : ((¬ (u_1 = (112 : Int32))) ∧ ((¬ (u_1 = (101 : Int32))) ∧ ((¬ (u_1 = (109 : Int32))) ∧ ((¬ (u_1 = (120 : Int32))) ∧ (¬ (u_1 = (119 : Int32))))))) → W p l e rmX7_readsClause s m args below meth c H locs 0 0 Q (F0 m 53 ls []) := by
    intro hc_2
    have hr := ite_p hr hc_2
    refine lv_iconst (v := (0 : Int32)) hx hb dX7_readsClause_53 (by decide) ?_
    obtain rfl := Option.some.inj hr
    exact hret H locs _ hP hS (fun Qc free hq hf => W.zret hx hb hrt (nz_ (Or.inl rfl)) hq hf dX7_readsClause_54 hlocks)
  have tF_4 : ¬ ((¬ (u_1 = (112 : Int32))) ∧ ((¬ (u_1 = (101 : Int32))) ∧ ((¬ (u_1 = (109 : Int32))) ∧ ((¬ (u_1 = (120 : Int32))) ∧ (¬ (u_1 = (119 : Int32))))))) → W p l e rmX7_readsClause s m args below meth c H locs 0 0 Q (F0 m 55 ls []) := by
    intro hc_2
    have hr := ite_n hr hc_2
    refine lv_aload_n hx hb dX7_readsClause_55 rfl (lv_at hl 0 rfl) ?_
    refine lv_dup hx hb dX7_readsClause_56 rfl ?_
    refine va_get (D := (dC, dI)) (ci := 6) (v := .int o_place) (C := RX7) (T := TX7) (N := 15) hx hb hts iX7 hown hK hP 0 rfl rfl 8 (by decide) (hts (.fieldLink RX7 102 "PascalRowsModel" "place" "I") (List.mem_of_getElem? (i := 2) rfl)) (fun _ h9 => h9) rfl dX7_readsClause_57 ?_
    refine lv_iconst (v := (1 : Int32)) hx hb dX7_readsClause_60 (by decide) ?_
    refine lv_iadd hx hb dX7_readsClause_61 ?_
    refine va_put (D := (dC, dI)) (ci := 6) (v := .int (o_place + (1 : Int32))) (ty := .int) (C := RX7) (T := TX7) (N := 15) hx hb hts iX7 tyX7 tyX7_ok nmX7 hown hK hP (hD.fst rfl) hS 0 rfl rfl 8 (by decide) (hts (.fieldLink RX7 102 "PascalRowsModel" "place" "I") (List.mem_of_getElem? (i := 2) rfl)) (fun _ h9 => h9) rfl (by decide +kernel) rfl rfl (Nat.le_of_ble_eq_true rfl) dX7_readsClause_62 (fun H locs hP _ hS => ?_)
    have hP : va_P (dC, dI) vwCl [(a_o, .inr (6, [.ref a_o_g, .ref a_o_kept, .ref a_o_was, .int o_isKept, .ref a_o_triangle, .int o_takenBy, .ref a_o_text, .int o_fed, .int (o_place + (1 : Int32)), .int u_1, .int o_first, .int o_second, .ref a_o_sort, .ref a_o_size, .ref a_o_items])), (a_o_text, .inl (cI, 100, .inl o_text))] H := hP
    refine lv_aload_n hx hb dX7_readsClause_65 rfl (lv_at hl 0 rfl) ?_
    refine va_get (D := (dC, dI)) (ci := 6) (v := .int u_1) (C := RX7) (T := TX7) (N := 15) hx hb hts iX7 hown hK hP 0 rfl rfl 9 (by decide) (hts (.fieldLink RX7 112 "PascalRowsModel" "letter" "I") (List.mem_of_getElem? (i := 1) rfl)) (fun _ h9 => h9) rfl dX7_readsClause_66 ?_
    refine lv_bipush (v := (120 : Int32)) hx hb dX7_readsClause_69 (by decide) ?_
    refine lv_icmp_ne (tgt := 76) hx hb dX7_readsClause_71 (by decide) (fun c_5 => ?_) (fun c_5 => ?_)
    · have hr := ite_n hr c_5
      refine lv_aload_n hx hb dX7_readsClause_76 rfl (lv_at hl 0 rfl) ?_
      refine lv_aload_n hx hb dX7_readsClause_77 rfl (lv_at hl 0 rfl) ?_
      refine lv_aload_n hx hb dX7_readsClause_78 rfl (lv_at hl 0 rfl) ?_
      refine va_get (D := (dC, dI)) (ci := 6) (v := .int u_1) (C := RX7) (T := TX7) (N := 15) hx hb hts iX7 hown hK hP 0 rfl rfl 9 (by decide) (hts (.fieldLink RX7 112 "PascalRowsModel" "letter" "I") (List.mem_of_getElem? (i := 1) rfl)) (fun _ h9 => h9) rfl dX7_readsClause_79 ?_
      refine lv_bipush (v := (119 : Int32)) hx hb dX7_readsClause_82 (by decide) ?_
      have hJ_6 : ∀ (y_7 : Int32) (ey_7 : y_7 = (if (¬ (u_1 = (119 : Int32))) then (1 : Int32) else (3 : Int32))) (ls : Array Slot), lv_has ls 1 [(0, .ref a_o)] → W p l e rmX7_readsClause s m args below meth c H locs 0 0 Q (F0 m 92 ls [.int y_7, .ref a_o, .ref a_o]) := by
        intro y_7 ey_7 ls hl
        subst ey_7
        obtain ⟨u_8, hu_8, hr⟩ := bd_e hr
        refine mu_V ⟨hx, hb, hml, hown, hts⟩ (k_X7_readsNumber l dC dI cI cJ a_o a_o_g a_o_kept a_o_was a_o_triangle a_o_text a_o_sort a_o_size a_o_items (if (¬ (u_1 = (119 : Int32))) then (1 : Int32) else (3 : Int32)) o_isKept o_takenBy o_fed (o_place + (1 : Int32)) u_1 o_first o_second o_text H.size u_8 hu_8) (cwV 1 hts gX7_readsClause_X7_readsNumber rfl rfl rfl (by decide +kernel) ⟨Nat.le_of_ble_eq_true rfl, Nat.le_of_ble_eq_true rfl⟩) hE 0 rfl rfl rfl rfl hl.1 rfl (Nat.le_of_ble_eq_true rfl) dX7_readsClause_92 ⟨Nat.zero_le _, Nat.zero_le _⟩ hP (hD.fst rfl) hS hA [0, 1] [] [0, 1] rfl rfl (by decide) (by decide) rfl (by decide) (W1 := [(a_o, .inr (6, [.ref a_o_g, .ref a_o_kept, .ref a_o_was, .int o_isKept, .ref a_o_triangle, .int o_takenBy, .ref a_o_text, .int o_fed, .int u_8.2, .int u_1, .int o_first, .int o_second, .ref a_o_sort, .ref a_o_size, .ref a_o_items])), (a_o_text, .inl (cI, 100, .inl o_text))]) rfl (fun H locs hP hS => W.eq (g2 := F0 m 95 ls [.int u_8.1, .ref a_o]) rfl ?_)
        refine va_put (D := (dC, dI)) (ci := 6) (v := .int u_8.1) (ty := .int) (C := RX7) (T := TX7) (N := 15) hx hb hts iX7 tyX7 tyX7_ok nmX7 hown hK hP (hD.fst rfl) hS 0 rfl rfl 10 (by decide) (hts (.fieldLink RX7 119 "PascalRowsModel" "first" "I") (List.mem_of_getElem? (i := 3) rfl)) (fun _ h9 => h9) rfl (by decide +kernel) rfl rfl (Nat.le_of_ble_eq_true rfl) dX7_readsClause_95 (fun H locs hP _ hS => ?_)
        have hP : va_P (dC, dI) vwCl [(a_o, .inr (6, [.ref a_o_g, .ref a_o_kept, .ref a_o_was, .int o_isKept, .ref a_o_triangle, .int o_takenBy, .ref a_o_text, .int o_fed, .int u_8.2, .int u_1, .int u_8.1, .int o_second, .ref a_o_sort, .ref a_o_size, .ref a_o_items])), (a_o_text, .inl (cI, 100, .inl o_text))] H := hP
        refine lv_aload_n hx hb dX7_readsClause_98 rfl (lv_at hl 0 rfl) ?_
        refine va_get (D := (dC, dI)) (ci := 6) (v := .int u_8.1) (C := RX7) (T := TX7) (N := 15) hx hb hts iX7 hown hK hP 0 rfl rfl 10 (by decide) (hts (.fieldLink RX7 119 "PascalRowsModel" "first" "I") (List.mem_of_getElem? (i := 3) rfl)) (fun _ h9 => h9) rfl dX7_readsClause_99 ?_
        have tT_10 : ((u_8.1 < 0) ∨ ((u_1 = (112 : Int32)) ∨ (u_1 = (101 : Int32)))) → W p l e rmX7_readsClause s m args below meth c H locs 0 0 Q (F0 m 123 ls []) := by
          intro hc_9
          have hr := ite_p hr hc_9
          refine lv_aload_n hx hb dX7_readsClause_123 rfl (lv_at hl 0 rfl) ?_
          refine va_get (D := (dC, dI)) (ci := 6) (v := .int u_8.1) (C := RX7) (T := TX7) (N := 15) hx hb hts iX7 hown hK hP 0 rfl rfl 10 (by decide) (hts (.fieldLink RX7 119 "PascalRowsModel" "first" "I") (List.mem_of_getElem? (i := 3) rfl)) (fun _ h9 => h9) rfl dX7_readsClause_124 ?_
          have hJ_11 : ∀ (y_12 : Int32) (ey_12 : y_12 = (if (¬ (u_8.1 < 0)) then (1 : Int32) else (0 : Int32))) (ls : Array Slot), lv_has ls 1 [] → W p l e rmX7_readsClause s m args below meth c H locs 0 0 Q (F0 m 135 ls [.int y_12]) := by
            intro y_12 ey_12 ls hl
            subst ey_12
            obtain rfl := Option.some.inj hr
            exact hret H locs _ hP hS (fun Qc free hq hf => W.zret hx hb hrt (nz_ (nb_lit _)) hq hf dX7_readsClause_135 hlocks)
          refine lv_if_lt (tgt := 134) hx hb dX7_readsClause_127 (by decide) (fun c_13 => ?_) (fun c_13 => ?_)
          · refine lv_iconst (v := (0 : Int32)) hx hb dX7_readsClause_134 (by decide) ?_
            exact hJ_11 _ (if_neg (fun h => h c_13)).symm ls (lv_sub hl [] rfl)
          · refine lv_iconst (v := (1 : Int32)) hx hb dX7_readsClause_130 (by decide) ?_
            refine lv_goto (tgt := 135) hx hb dX7_readsClause_131 (by decide) ?_
            exact hJ_11 _ (if_pos c_13).symm ls (lv_sub hl [] rfl)
        have tF_14 : ¬ ((u_8.1 < 0) ∨ ((u_1 = (112 : Int32)) ∨ (u_1 = (101 : Int32)))) → W p l e rmX7_readsClause s m args below meth c H locs 0 0 Q (F0 m 136 ls []) := by
          intro hc_9
          have hr := ite_n hr hc_9
          refine lv_aload_n hx hb dX7_readsClause_136 rfl (lv_at hl 0 rfl) ?_
          refine va_get (D := (dC, dI)) (ci := 6) (v := .int u_1) (C := RX7) (T := TX7) (N := 15) hx hb hts iX7 hown hK hP 0 rfl rfl 9 (by decide) (hts (.fieldLink RX7 112 "PascalRowsModel" "letter" "I") (List.mem_of_getElem? (i := 1) rfl)) (fun _ h9 => h9) rfl dX7_readsClause_137 ?_
          refine lv_bipush (v := (119 : Int32)) hx hb dX7_readsClause_140 (by decide) ?_
          refine lv_icmp_ne (tgt := 166) hx hb dX7_readsClause_142 (by decide) (fun c_15 => ?_) (fun c_15 => ?_)
          · have hr := ite_n hr c_15
            refine lv_aload_n hx hb dX7_readsClause_166 rfl (lv_at hl 0 rfl) ?_
            refine lv_aload_n hx hb dX7_readsClause_167 rfl (lv_at hl 0 rfl) ?_
            refine lv_iconst (v := (3 : Int32)) hx hb dX7_readsClause_168 (by decide) ?_
            obtain ⟨u_16, hu_16, hr⟩ := bd_e hr
            refine mu_V ⟨hx, hb, hml, hown, hts⟩ (k_X7_readsNumber l dC dI cI cJ a_o a_o_g a_o_kept a_o_was a_o_triangle a_o_text a_o_sort a_o_size a_o_items (3 : Int32) o_isKept o_takenBy o_fed u_8.2 u_1 u_8.1 o_second o_text H.size u_16 hu_16) (cwV 1 hts gX7_readsClause_X7_readsNumber rfl rfl rfl (by decide +kernel) ⟨Nat.le_of_ble_eq_true rfl, Nat.le_of_ble_eq_true rfl⟩) hE 0 rfl rfl rfl rfl hl.1 rfl (Nat.le_of_ble_eq_true rfl) dX7_readsClause_169 ⟨Nat.zero_le _, Nat.zero_le _⟩ hP (hD.fst rfl) hS hA [0, 1] [] [0, 1] rfl rfl (by decide) (by decide) rfl (by decide) (W1 := [(a_o, .inr (6, [.ref a_o_g, .ref a_o_kept, .ref a_o_was, .int o_isKept, .ref a_o_triangle, .int o_takenBy, .ref a_o_text, .int o_fed, .int u_16.2, .int u_1, .int u_8.1, .int o_second, .ref a_o_sort, .ref a_o_size, .ref a_o_items])), (a_o_text, .inl (cI, 100, .inl o_text))]) rfl (fun H locs hP hS => W.eq (g2 := F0 m 172 ls [.int u_16.1, .ref a_o]) rfl ?_)
            refine va_put (D := (dC, dI)) (ci := 6) (v := .int u_16.1) (ty := .int) (C := RX7) (T := TX7) (N := 15) hx hb hts iX7 tyX7 tyX7_ok nmX7 hown hK hP (hD.fst rfl) hS 0 rfl rfl 11 (by decide) (hts (.fieldLink RX7 122 "PascalRowsModel" "second" "I") (List.mem_of_getElem? (i := 4) rfl)) (fun _ h9 => h9) rfl (by decide +kernel) rfl rfl (Nat.le_of_ble_eq_true rfl) dX7_readsClause_172 (fun H locs hP _ hS => ?_)
            have hP : va_P (dC, dI) vwCl [(a_o, .inr (6, [.ref a_o_g, .ref a_o_kept, .ref a_o_was, .int o_isKept, .ref a_o_triangle, .int o_takenBy, .ref a_o_text, .int o_fed, .int u_16.2, .int u_1, .int u_8.1, .int u_16.1, .ref a_o_sort, .ref a_o_size, .ref a_o_items])), (a_o_text, .inl (cI, 100, .inl o_text))] H := hP
            refine lv_aload_n hx hb dX7_readsClause_175 rfl (lv_at hl 0 rfl) ?_
            refine va_get (D := (dC, dI)) (ci := 6) (v := .int u_16.1) (C := RX7) (T := TX7) (N := 15) hx hb hts iX7 hown hK hP 0 rfl rfl 11 (by decide) (hts (.fieldLink RX7 122 "PascalRowsModel" "second" "I") (List.mem_of_getElem? (i := 4) rfl)) (fun _ h9 => h9) rfl dX7_readsClause_176 ?_
            have hJ_17 : ∀ (y_18 : Int32) (ey_18 : y_18 = (if (¬ (u_16.1 < 0)) then (1 : Int32) else (0 : Int32))) (ls : Array Slot), lv_has ls 1 [] → W p l e rmX7_readsClause s m args below meth c H locs 0 0 Q (F0 m 187 ls [.int y_18]) := by
              intro y_18 ey_18 ls hl
              subst ey_18
              obtain rfl := Option.some.inj hr
              exact hret H locs _ hP hS (fun Qc free hq hf => W.zret hx hb hrt (nz_ (nb_lit _)) hq hf dX7_readsClause_187 hlocks)
            refine lv_if_lt (tgt := 186) hx hb dX7_readsClause_179 (by decide) (fun c_19 => ?_) (fun c_19 => ?_)
            · refine lv_iconst (v := (0 : Int32)) hx hb dX7_readsClause_186 (by decide) ?_
              exact hJ_17 _ (if_neg (fun h => h c_19)).symm ls (lv_sub hl [] rfl)
            · refine lv_iconst (v := (1 : Int32)) hx hb dX7_readsClause_182 (by decide) ?_
              refine lv_goto (tgt := 187) hx hb dX7_readsClause_183 (by decide) ?_
              exact hJ_17 _ (if_pos c_19).symm ls (lv_sub hl [] rfl)
          · have hr := ite_p hr c_15
            refine lv_aload_n hx hb dX7_readsClause_145 rfl (lv_at hl 0 rfl) ?_
            obtain ⟨u_20, hu_20, hr⟩ := bd_e hr
            refine ro_V ⟨hx, hb, hml, hown, hts⟩ (k_X7_here l dC dI cI cJ a_o a_o_g a_o_kept a_o_was a_o_triangle a_o_text a_o_sort a_o_size a_o_items o_isKept o_takenBy o_fed u_8.2 u_1 u_8.1 o_second o_text u_20 hu_20) (cwV 0 hts gX7_readsClause_X7_here rfl rfl rfl (by decide +kernel) ⟨Nat.le_of_ble_eq_true rfl, Nat.le_of_ble_eq_true rfl⟩) hE hP 0 rfl rfl rfl (hP.sub [0, 1] rfl) rfl hl.1 rfl (Nat.le_of_ble_eq_true rfl) dX7_readsClause_146 ⟨Nat.zero_le _, Nat.zero_le _⟩ ?_
            refine lv_bipush (v := (44 : Int32)) hx hb dX7_readsClause_149 (by decide) ?_
            refine lv_icmp_eq (tgt := 156) hx hb dX7_readsClause_151 (by decide) (fun c_21 => ?_) (fun c_21 => ?_)
            · have hr := ite_p hr c_21
              refine lv_aload_n hx hb dX7_readsClause_156 rfl (lv_at hl 0 rfl) ?_
              refine lv_dup hx hb dX7_readsClause_157 rfl ?_
              refine va_get (D := (dC, dI)) (ci := 6) (v := .int u_8.2) (C := RX7) (T := TX7) (N := 15) hx hb hts iX7 hown hK hP 0 rfl rfl 8 (by decide) (hts (.fieldLink RX7 102 "PascalRowsModel" "place" "I") (List.mem_of_getElem? (i := 2) rfl)) (fun _ h9 => h9) rfl dX7_readsClause_158 ?_
              refine lv_iconst (v := (1 : Int32)) hx hb dX7_readsClause_161 (by decide) ?_
              refine lv_iadd hx hb dX7_readsClause_162 ?_
              refine va_put (D := (dC, dI)) (ci := 6) (v := .int (u_8.2 + (1 : Int32))) (ty := .int) (C := RX7) (T := TX7) (N := 15) hx hb hts iX7 tyX7 tyX7_ok nmX7 hown hK hP (hD.fst rfl) hS 0 rfl rfl 8 (by decide) (hts (.fieldLink RX7 102 "PascalRowsModel" "place" "I") (List.mem_of_getElem? (i := 2) rfl)) (fun _ h9 => h9) rfl (by decide +kernel) rfl rfl (Nat.le_of_ble_eq_true rfl) dX7_readsClause_163 (fun H locs hP _ hS => ?_)
              have hP : va_P (dC, dI) vwCl [(a_o, .inr (6, [.ref a_o_g, .ref a_o_kept, .ref a_o_was, .int o_isKept, .ref a_o_triangle, .int o_takenBy, .ref a_o_text, .int o_fed, .int (u_8.2 + (1 : Int32)), .int u_1, .int u_8.1, .int o_second, .ref a_o_sort, .ref a_o_size, .ref a_o_items])), (a_o_text, .inl (cI, 100, .inl o_text))] H := hP
              refine lv_aload_n hx hb dX7_readsClause_166 rfl (lv_at hl 0 rfl) ?_
              refine lv_aload_n hx hb dX7_readsClause_167 rfl (lv_at hl 0 rfl) ?_
              refine lv_iconst (v := (3 : Int32)) hx hb dX7_readsClause_168 (by decide) ?_
              obtain ⟨u_22, hu_22, hr⟩ := bd_e hr
              refine mu_V ⟨hx, hb, hml, hown, hts⟩ (k_X7_readsNumber l dC dI cI cJ a_o a_o_g a_o_kept a_o_was a_o_triangle a_o_text a_o_sort a_o_size a_o_items (3 : Int32) o_isKept o_takenBy o_fed (u_8.2 + (1 : Int32)) u_1 u_8.1 o_second o_text H.size u_22 hu_22) (cwV 1 hts gX7_readsClause_X7_readsNumber rfl rfl rfl (by decide +kernel) ⟨Nat.le_of_ble_eq_true rfl, Nat.le_of_ble_eq_true rfl⟩) hE 0 rfl rfl rfl rfl hl.1 rfl (Nat.le_of_ble_eq_true rfl) dX7_readsClause_169 ⟨Nat.zero_le _, Nat.zero_le _⟩ hP (hD.fst rfl) hS hA [0, 1] [] [0, 1] rfl rfl (by decide) (by decide) rfl (by decide) (W1 := [(a_o, .inr (6, [.ref a_o_g, .ref a_o_kept, .ref a_o_was, .int o_isKept, .ref a_o_triangle, .int o_takenBy, .ref a_o_text, .int o_fed, .int u_22.2, .int u_1, .int u_8.1, .int o_second, .ref a_o_sort, .ref a_o_size, .ref a_o_items])), (a_o_text, .inl (cI, 100, .inl o_text))]) rfl (fun H locs hP hS => W.eq (g2 := F0 m 172 ls [.int u_22.1, .ref a_o]) rfl ?_)
              refine va_put (D := (dC, dI)) (ci := 6) (v := .int u_22.1) (ty := .int) (C := RX7) (T := TX7) (N := 15) hx hb hts iX7 tyX7 tyX7_ok nmX7 hown hK hP (hD.fst rfl) hS 0 rfl rfl 11 (by decide) (hts (.fieldLink RX7 122 "PascalRowsModel" "second" "I") (List.mem_of_getElem? (i := 4) rfl)) (fun _ h9 => h9) rfl (by decide +kernel) rfl rfl (Nat.le_of_ble_eq_true rfl) dX7_readsClause_172 (fun H locs hP _ hS => ?_)
              have hP : va_P (dC, dI) vwCl [(a_o, .inr (6, [.ref a_o_g, .ref a_o_kept, .ref a_o_was, .int o_isKept, .ref a_o_triangle, .int o_takenBy, .ref a_o_text, .int o_fed, .int u_22.2, .int u_1, .int u_8.1, .int u_22.1, .ref a_o_sort, .ref a_o_size, .ref a_o_items])), (a_o_text, .inl (cI, 100, .inl o_text))] H := hP
              refine lv_aload_n hx hb dX7_readsClause_175 rfl (lv_at hl 0 rfl) ?_
              refine va_get (D := (dC, dI)) (ci := 6) (v := .int u_22.1) (C := RX7) (T := TX7) (N := 15) hx hb hts iX7 hown hK hP 0 rfl rfl 11 (by decide) (hts (.fieldLink RX7 122 "PascalRowsModel" "second" "I") (List.mem_of_getElem? (i := 4) rfl)) (fun _ h9 => h9) rfl dX7_readsClause_176 ?_
              have hJ_23 : ∀ (y_24 : Int32) (ey_24 : y_24 = (if (¬ (u_22.1 < 0)) then (1 : Int32) else (0 : Int32))) (ls : Array Slot), lv_has ls 1 [] → W p l e rmX7_readsClause s m args below meth c H locs 0 0 Q (F0 m 187 ls [.int y_24]) := by
                intro y_24 ey_24 ls hl
                subst ey_24
                obtain rfl := Option.some.inj hr
                exact hret H locs _ hP hS (fun Qc free hq hf => W.zret hx hb hrt (nz_ (nb_lit _)) hq hf dX7_readsClause_187 hlocks)
              refine lv_if_lt (tgt := 186) hx hb dX7_readsClause_179 (by decide) (fun c_25 => ?_) (fun c_25 => ?_)
              · refine lv_iconst (v := (0 : Int32)) hx hb dX7_readsClause_186 (by decide) ?_
                exact hJ_23 _ (if_neg (fun h => h c_25)).symm ls (lv_sub hl [] rfl)
              · refine lv_iconst (v := (1 : Int32)) hx hb dX7_readsClause_182 (by decide) ?_
                refine lv_goto (tgt := 187) hx hb dX7_readsClause_183 (by decide) ?_
                exact hJ_23 _ (if_pos c_25).symm ls (lv_sub hl [] rfl)
            · have hr := ite_n hr c_21
              refine lv_iconst (v := (0 : Int32)) hx hb dX7_readsClause_154 (by decide) ?_
              obtain rfl := Option.some.inj hr
              exact hret H locs _ hP hS (fun Qc free hq hf => W.zret hx hb hrt (nz_ (Or.inl rfl)) hq hf dX7_readsClause_155 hlocks)
        refine lv_if_lt (tgt := 123) hx hb dX7_readsClause_102 (by decide) (fun c_26 => ?_) (fun c_26 => ?_)
        · exact tT_10 (Or.inl c_26)
        · refine lv_aload_n hx hb dX7_readsClause_105 rfl (lv_at hl 0 rfl) ?_
          refine va_get (D := (dC, dI)) (ci := 6) (v := .int u_1) (C := RX7) (T := TX7) (N := 15) hx hb hts iX7 hown hK hP 0 rfl rfl 9 (by decide) (hts (.fieldLink RX7 112 "PascalRowsModel" "letter" "I") (List.mem_of_getElem? (i := 1) rfl)) (fun _ h9 => h9) rfl dX7_readsClause_106 ?_
          refine lv_bipush (v := (112 : Int32)) hx hb dX7_readsClause_109 (by decide) ?_
          refine lv_icmp_eq (tgt := 123) hx hb dX7_readsClause_111 (by decide) (fun c_27 => ?_) (fun c_27 => ?_)
          · exact tT_10 (Or.inr (Or.inl c_27))
          · refine lv_aload_n hx hb dX7_readsClause_114 rfl (lv_at hl 0 rfl) ?_
            refine va_get (D := (dC, dI)) (ci := 6) (v := .int u_1) (C := RX7) (T := TX7) (N := 15) hx hb hts iX7 hown hK hP 0 rfl rfl 9 (by decide) (hts (.fieldLink RX7 112 "PascalRowsModel" "letter" "I") (List.mem_of_getElem? (i := 1) rfl)) (fun _ h9 => h9) rfl dX7_readsClause_115 ?_
            refine lv_bipush (v := (101 : Int32)) hx hb dX7_readsClause_118 (by decide) ?_
            refine lv_icmp_ne (tgt := 136) hx hb dX7_readsClause_120 (by decide) (fun c_28 => ?_) (fun c_28 => ?_)
            · exact tF_14 (fun h => h.elim c_26 (fun h => h.elim c_27 c_28))
            · exact tT_10 (Or.inr (Or.inr c_28))
      refine lv_icmp_ne (tgt := 91) hx hb dX7_readsClause_84 (by decide) (fun c_29 => ?_) (fun c_29 => ?_)
      · refine lv_iconst (v := (1 : Int32)) hx hb dX7_readsClause_91 (by decide) ?_
        exact hJ_6 _ (if_pos c_29).symm ls (lv_sub hl [0] rfl)
      · refine lv_iconst (v := (3 : Int32)) hx hb dX7_readsClause_87 (by decide) ?_
        refine lv_goto (tgt := 92) hx hb dX7_readsClause_88 (by decide) ?_
        exact hJ_6 _ (if_neg (fun h => h c_29)).symm ls (lv_sub hl [0] rfl)
    · have hr := ite_p hr c_5
      refine lv_iconst (v := (1 : Int32)) hx hb dX7_readsClause_74 (by decide) ?_
      obtain rfl := Option.some.inj hr
      exact hret H locs _ hP hS (fun Qc free hq hf => W.zret hx hb hrt (nz_ (Or.inr rfl)) hq hf dX7_readsClause_75 hlocks)
  refine lv_icmp_eq (tgt := 55) hx hb dX7_readsClause_14 (by decide) (fun c_30 => ?_) (fun c_30 => ?_)
  · exact tF_4 (fun h => (fun h => h c_30) h.1)
  · refine lv_aload_n hx hb dX7_readsClause_17 rfl (lv_at hl 0 rfl) ?_
    refine va_get (D := (dC, dI)) (ci := 6) (v := .int u_1) (C := RX7) (T := TX7) (N := 15) hx hb hts iX7 hown hK hP 0 rfl rfl 9 (by decide) (hts (.fieldLink RX7 112 "PascalRowsModel" "letter" "I") (List.mem_of_getElem? (i := 1) rfl)) (fun _ h9 => h9) rfl dX7_readsClause_18 ?_
    refine lv_bipush (v := (101 : Int32)) hx hb dX7_readsClause_21 (by decide) ?_
    refine lv_icmp_eq (tgt := 55) hx hb dX7_readsClause_23 (by decide) (fun c_31 => ?_) (fun c_31 => ?_)
    · exact tF_4 (fun h => (fun h => (fun h => h c_31) h.1) h.2)
    · refine lv_aload_n hx hb dX7_readsClause_26 rfl (lv_at hl 0 rfl) ?_
      refine va_get (D := (dC, dI)) (ci := 6) (v := .int u_1) (C := RX7) (T := TX7) (N := 15) hx hb hts iX7 hown hK hP 0 rfl rfl 9 (by decide) (hts (.fieldLink RX7 112 "PascalRowsModel" "letter" "I") (List.mem_of_getElem? (i := 1) rfl)) (fun _ h9 => h9) rfl dX7_readsClause_27 ?_
      refine lv_bipush (v := (109 : Int32)) hx hb dX7_readsClause_30 (by decide) ?_
      refine lv_icmp_eq (tgt := 55) hx hb dX7_readsClause_32 (by decide) (fun c_32 => ?_) (fun c_32 => ?_)
      · exact tF_4 (fun h => (fun h => (fun h => (fun h => h c_32) h.1) h.2) h.2)
      · refine lv_aload_n hx hb dX7_readsClause_35 rfl (lv_at hl 0 rfl) ?_
        refine va_get (D := (dC, dI)) (ci := 6) (v := .int u_1) (C := RX7) (T := TX7) (N := 15) hx hb hts iX7 hown hK hP 0 rfl rfl 9 (by decide) (hts (.fieldLink RX7 112 "PascalRowsModel" "letter" "I") (List.mem_of_getElem? (i := 1) rfl)) (fun _ h9 => h9) rfl dX7_readsClause_36 ?_
        refine lv_bipush (v := (120 : Int32)) hx hb dX7_readsClause_39 (by decide) ?_
        refine lv_icmp_eq (tgt := 55) hx hb dX7_readsClause_41 (by decide) (fun c_33 => ?_) (fun c_33 => ?_)
        · exact tF_4 (fun h => (fun h => (fun h => (fun h => (fun h => h c_33) h.1) h.2) h.2) h.2)
        · refine lv_aload_n hx hb dX7_readsClause_44 rfl (lv_at hl 0 rfl) ?_
          refine va_get (D := (dC, dI)) (ci := 6) (v := .int u_1) (C := RX7) (T := TX7) (N := 15) hx hb hts iX7 hown hK hP 0 rfl rfl 9 (by decide) (hts (.fieldLink RX7 112 "PascalRowsModel" "letter" "I") (List.mem_of_getElem? (i := 1) rfl)) (fun _ h9 => h9) rfl dX7_readsClause_45 ?_
          refine lv_bipush (v := (119 : Int32)) hx hb dX7_readsClause_48 (by decide) ?_
          refine lv_icmp_eq (tgt := 55) hx hb dX7_readsClause_50 (by decide) (fun c_34 => ?_) (fun c_34 => ?_)
          · exact tF_4 (fun h => (fun h => (fun h => (fun h => (fun h => h c_34) h.2) h.2) h.2) h.2)
          · exact tT_3 ⟨c_30, ⟨c_31, ⟨c_32, ⟨c_33, c_34⟩⟩⟩⟩
/-! X7_fault -/
def rmX7_fault : Room := { frames := 3, cells := 0, slots := 0, locals := 68 }
set_option maxHeartbeats 4000000 in
set_option maxRecDepth 100000 in
theorem k_X7_fault (l : Launch) (dC : Nat → ClassId) (dI : Nat → Nat → Nat) (cI cJ : ClassId) (a_o : Nat) (a_o_g : Nat) (a_o_kept : Nat) (a_o_was : Nat) (a_o_triangle : Nat) (a_o_text : Nat) (a_o_sort : Nat) (a_o_size : Nat) (a_o_items : Nat) (o_isKept : Int32) (o_takenBy : Int32) (o_fed : Int32) (o_place : Int32) (o_letter : Int32) (o_first : Int32) (o_second : Int32) (o_text : Nat → Int32) (sz : Nat) (r : Int32 × Int32 × Int32 × Int32 × Int32) (hr : f_X7_fault o_text o_fed o_place o_letter o_first o_second = some r) : Met l yX7_fault wsX7_fault rmX7_fault (va_Pc [.ref a_o] (pM (dC, dI) cI cJ [(a_o, .inr (6, [.ref a_o_g, .ref a_o_kept, .ref a_o_was, .int o_isKept, .ref a_o_triangle, .int o_takenBy, .ref a_o_text, .int o_fed, .int o_place, .int o_letter, .int o_first, .int o_second, .ref a_o_sort, .ref a_o_size, .ref a_o_items])), (a_o_text, .inl (cI, 100, .inl o_text))] sz)) (qM (some (.int r.1)) (dC, dI) [(a_o, .inr (6, [.ref a_o_g, .ref a_o_kept, .ref a_o_was, .int o_isKept, .ref a_o_triangle, .int o_takenBy, .ref a_o_text, .int o_fed, .int r.2.1, .int r.2.2.1, .int r.2.2.2.1, .int r.2.2.2.2, .ref a_o_sort, .ref a_o_size, .ref a_o_items])), (a_o_text, .inl (cI, 100, .inl o_text))] (va_A [(a_o, .inr (6, [.ref a_o_g, .ref a_o_kept, .ref a_o_was, .int o_isKept, .ref a_o_triangle, .int o_takenBy, .ref a_o_text, .int o_fed, .int o_place, .int o_letter, .int o_first, .int o_second, .ref a_o_sort, .ref a_o_size, .ref a_o_items])), (a_o_text, .inl (cI, 100, .inl o_text))] sz)) 0 0 (va_A [(a_o, .inr (6, [.ref a_o_g, .ref a_o_kept, .ref a_o_was, .int o_isKept, .ref a_o_triangle, .int o_takenBy, .ref a_o_text, .int o_fed, .int o_place, .int o_letter, .int o_first, .int o_second, .ref a_o_sort, .ref a_o_size, .ref a_o_items])), (a_o_text, .inl (cI, 100, .inl o_text))] sz) := by
  refine mu_of (cc := cX7_fault) (maxL := 3) (by decide) rfl (Nat.le_of_ble_eq_true rfl) ?_
  intro p e s m args below meth c Q ls A hx hb hml hown hts hE hP hD hA hrt hlocks hret hl
  have hK := hE.1
  have hS : va_S A s.heap s.heap [] := va_S.rf
  have hl : lv_has ls 3 [(0, .ref a_o)] := hl
  unfold f_X7_fault at hr
  obtain ⟨H, hHe⟩ : ∃ H, H = s.heap := ⟨_, rfl⟩
  obtain ⟨locs, hLe⟩ : ∃ locs : List Loc, locs = [] := ⟨_, rfl⟩
  suffices hgo : va_P (dC, dI) vwCl [(a_o, .inr (6, [.ref a_o_g, .ref a_o_kept, .ref a_o_was, .int o_isKept, .ref a_o_triangle, .int o_takenBy, .ref a_o_text, .int o_fed, .int o_place, .int o_letter, .int o_first, .int o_second, .ref a_o_sort, .ref a_o_size, .ref a_o_items])), (a_o_text, .inl (cI, 100, .inl o_text))] H → va_S A s.heap H locs → W p l e rmX7_fault s m args below meth c H locs 0 0 Q (F0 m 0 ls []) by
    subst hHe; subst hLe; exact hgo hP hS
  clear hP hS hHe hLe
  intro hP hS
  have iX7 : ∀ w ∈ wsX70, w ∈ wsX7_fault := memr_ (big := wsX7_fault) wsX70 [25, 26, 27, 28, 29, 30, 31, 32, 33, 34, 35, 36, 37, 38, 39] (by decide +kernel)
  refine lv_aload_n hx hb dX7_fault_0 rfl (lv_at hl 0 rfl) ?_
  refine lv_iconst (v := (0 : Int32)) hx hb dX7_fault_1 (by decide) ?_
  refine va_put (D := (dC, dI)) (ci := 6) (v := .int (0 : Int32)) (ty := .int) (C := RX7) (T := TX7) (N := 15) hx hb hts iX7 tyX7 tyX7_ok nmX7 hown hK hP (hD.fst rfl) hS 0 rfl rfl 8 (by decide) (hts (.fieldLink RX7 102 "PascalRowsModel" "place" "I") (List.mem_of_getElem? (i := 1) rfl)) (fun _ h9 => h9) rfl (by decide +kernel) rfl rfl (Nat.le_of_ble_eq_true rfl) dX7_fault_2 (fun H locs hP _ hS => ?_)
  have hP : va_P (dC, dI) vwCl [(a_o, .inr (6, [.ref a_o_g, .ref a_o_kept, .ref a_o_was, .int o_isKept, .ref a_o_triangle, .int o_takenBy, .ref a_o_text, .int o_fed, .int (0 : Int32), .int o_letter, .int o_first, .int o_second, .ref a_o_sort, .ref a_o_size, .ref a_o_items])), (a_o_text, .inl (cI, 100, .inl o_text))] H := hP
  refine lv_iconst (v := (0 : Int32)) hx hb dX7_fault_5 (by decide) ?_
  refine lv_istore_n (lv' := [(1, .int (0 : Int32)), (0, .ref a_o)]) hx hb dX7_fault_6 rfl hl (by decide) rfl (fun ls hl => ?_)
  refine lv_iconst (v := (1 : Int32)) hx hb dX7_fault_7 (by decide) ?_
  refine lv_istore_n (lv' := [(2, .int (1 : Int32)), (1, .int (0 : Int32)), (0, .ref a_o)]) hx hb dX7_fault_8 rfl hl (by decide) rfl (fun ls hl => ?_)
  have hL9 : ∀  (k_9 : (Int32) → (Int32) → (Int32) → (Int32) → Option (Int32 × Int32 × Int32 × Int32 × Int32)) (hk : ∀ (xc_o_place_9 : Int32) (xc_o_letter_9 : Int32) (xc_o_first_9 : Int32) (xc_o_second_9 : Int32) (ls : Array Slot), lv_has ls 3 [(0, .ref a_o)] → ∀ (H : Heap) (locs : List Loc), va_P (dC, dI) vwCl [(a_o, .inr (6, [.ref a_o_g, .ref a_o_kept, .ref a_o_was, .int o_isKept, .ref a_o_triangle, .int o_takenBy, .ref a_o_text, .int o_fed, .int xc_o_place_9, .int xc_o_letter_9, .int xc_o_first_9, .int xc_o_second_9, .ref a_o_sort, .ref a_o_size, .ref a_o_items])), (a_o_text, .inl (cI, 100, .inl o_text))] H → va_S A s.heap H locs →  k_9 xc_o_place_9 xc_o_letter_9 xc_o_first_9 xc_o_second_9 = some r → W p l e rmX7_fault s m args below meth c H locs 0 0 Q (F0 m 70 ls [])) (fuel : Nat) (v1_9 : Int32) (v2_9 : Int32) (o_place_9 : Int32) (o_letter_9 : Int32) (o_first_9 : Int32) (o_second_9 : Int32) (ls : Array Slot), lv_has ls 3 [(0, .ref a_o), (1, .int v1_9), (2, .int v2_9)] → ∀ (H : Heap) (locs : List Loc), va_P (dC, dI) vwCl [(a_o, .inr (6, [.ref a_o_g, .ref a_o_kept, .ref a_o_was, .int o_isKept, .ref a_o_triangle, .int o_takenBy, .ref a_o_text, .int o_fed, .int o_place_9, .int o_letter_9, .int o_first_9, .int o_second_9, .ref a_o_sort, .ref a_o_size, .ref a_o_items])), (a_o_text, .inl (cI, 100, .inl o_text))] H → va_S A s.heap H locs → f_X7_fault_L9 k_9 o_text o_fed fuel v1_9 v2_9 o_place_9 o_letter_9 o_first_9 o_second_9 = some r → W p l e rmX7_fault s m args below meth c H locs 0 0 Q (F0 m 9 ls []) := by
    intro k_9 hk fuel
    induction fuel with
    | zero =>
      intro v1_9 v2_9 o_place_9 o_letter_9 o_first_9 o_second_9 ls hl H locs hP hS hr
      rw [f_X7_fault_L9_z] at hr
      cases hr
    | succ fuel ih =>
      intro v1_9 v2_9 o_place_9 o_letter_9 o_first_9 o_second_9 ls hl H locs hP hS hr
      rw [f_X7_fault_L9_s] at hr
      refine lv_iload_n hx hb dX7_fault_9 rfl (lv_at hl 2 rfl) ?_
      refine lv_if_eq (tgt := 70) hx hb dX7_fault_10 (by decide) (fun c_1 => ?_) (fun c_1 => ?_)
      · have hr := ite_p hr c_1
        exact hk o_place_9 o_letter_9 o_first_9 o_second_9 ls (lv_sub hl [0] rfl) H locs hP hS hr
      · have hr := ite_n hr c_1
        refine lv_aload_n hx hb dX7_fault_13 rfl (lv_at hl 0 rfl) ?_
        obtain ⟨u_2, hu_2, hr⟩ := bd_e hr
        refine mu_V ⟨hx, hb, hml, hown, hts⟩ (k_X7_readsClause l dC dI cI cJ a_o a_o_g a_o_kept a_o_was a_o_triangle a_o_text a_o_sort a_o_size a_o_items o_isKept o_takenBy o_fed o_place_9 o_letter_9 o_first_9 o_second_9 o_text H.size u_2 hu_2) (cwV 0 hts gX7_fault_X7_readsClause rfl rfl rfl (by decide +kernel) ⟨Nat.le_of_ble_eq_true rfl, Nat.le_of_ble_eq_true rfl⟩) hE 0 rfl rfl rfl rfl hl.1 rfl (Nat.le_of_ble_eq_true rfl) dX7_fault_14 ⟨Nat.zero_le _, Nat.zero_le _⟩ hP (hD.fst rfl) hS hA [0, 1] [] [0, 1] rfl rfl (by decide) (by decide) rfl (by decide) (W1 := [(a_o, .inr (6, [.ref a_o_g, .ref a_o_kept, .ref a_o_was, .int o_isKept, .ref a_o_triangle, .int o_takenBy, .ref a_o_text, .int o_fed, .int u_2.2.1, .int u_2.2.2.1, .int u_2.2.2.2.1, .int u_2.2.2.2.2, .ref a_o_sort, .ref a_o_size, .ref a_o_items])), (a_o_text, .inl (cI, 100, .inl o_text))]) rfl (fun H locs hP hS => W.eq (g2 := F0 m 17 ls [.int u_2.1]) rfl ?_)
        refine lv_if_ne (tgt := 25) hx hb dX7_fault_17 (by decide) (fun c_3 => ?_) (fun c_3 => ?_)
        · have hr := ite_n hr c_3
          refine lv_iinc (v := (v1_9 + (1 : Int32))) (lv' := [(1, .int (v1_9 + (1 : Int32))), (0, .ref a_o), (2, .int v2_9)]) hx hb dX7_fault_25 hl (k := 1) rfl (congrArg (fun z => v1_9 + z) (by decide)) (by decide) rfl (fun ls hl => ?_)
          refine lv_iload_n hx hb dX7_fault_28 rfl (lv_at hl 0 rfl) ?_
          refine lv_bipush (v := (12 : Int32)) hx hb dX7_fault_29 (by decide) ?_
          refine lv_icmp_ge (tgt := 47) hx hb dX7_fault_31 (by decide) (fun c_4 => ?_) (fun c_4 => ?_)
          · have hr := ite_p hr c_4
            refine lv_iconst (v := (0 : Int32)) hx hb dX7_fault_47 (by decide) ?_
            refine lv_istore_n (lv' := [(2, .int (0 : Int32)), (1, .int (v1_9 + (1 : Int32))), (0, .ref a_o)]) hx hb dX7_fault_48 rfl hl (by decide) rfl (fun ls hl => ?_)
            refine lv_aload_n hx hb dX7_fault_49 rfl (lv_at hl 2 rfl) ?_
            refine lv_dup hx hb dX7_fault_50 rfl ?_
            refine va_get (D := (dC, dI)) (ci := 6) (v := .int u_2.2.1) (C := RX7) (T := TX7) (N := 15) hx hb hts iX7 hown hK hP 0 rfl rfl 8 (by decide) (hts (.fieldLink RX7 102 "PascalRowsModel" "place" "I") (List.mem_of_getElem? (i := 1) rfl)) (fun _ h9 => h9) rfl dX7_fault_51 ?_
            refine lv_iload_n hx hb dX7_fault_54 rfl (lv_at hl 0 rfl) ?_
            have hJ_5 : ∀ (y_6 : Int32) (ey_6 : y_6 = (if (¬ ((0 : Int32) = 0)) then (1 : Int32) else (0 : Int32))) (ls : Array Slot), lv_has ls 3 [(0, .ref a_o), (1, .int (v1_9 + (1 : Int32))), (2, .int (0 : Int32))] → W p l e rmX7_fault s m args below meth c H locs 0 0 Q (F0 m 63 ls [.int y_6, .int u_2.2.1, .ref a_o]) := by
              intro y_6 ey_6 ls hl
              subst ey_6
              refine lv_iadd hx hb dX7_fault_63 ?_
              refine va_put (D := (dC, dI)) (ci := 6) (v := .int (u_2.2.1 + (if (¬ ((0 : Int32) = 0)) then (1 : Int32) else (0 : Int32)))) (ty := .int) (C := RX7) (T := TX7) (N := 15) hx hb hts iX7 tyX7 tyX7_ok nmX7 hown hK hP (hD.fst rfl) hS 0 rfl rfl 8 (by decide) (hts (.fieldLink RX7 102 "PascalRowsModel" "place" "I") (List.mem_of_getElem? (i := 1) rfl)) (fun _ h9 => h9) rfl (by decide +kernel) rfl rfl (Nat.le_of_ble_eq_true rfl) dX7_fault_64 (fun H locs hP _ hS => ?_)
              have hP : va_P (dC, dI) vwCl [(a_o, .inr (6, [.ref a_o_g, .ref a_o_kept, .ref a_o_was, .int o_isKept, .ref a_o_triangle, .int o_takenBy, .ref a_o_text, .int o_fed, .int (u_2.2.1 + (if (¬ ((0 : Int32) = 0)) then (1 : Int32) else (0 : Int32))), .int u_2.2.2.1, .int u_2.2.2.2.1, .int u_2.2.2.2.2, .ref a_o_sort, .ref a_o_size, .ref a_o_items])), (a_o_text, .inl (cI, 100, .inl o_text))] H := hP
              refine lv_goto (tgt := 9) hx hb dX7_fault_67 (by decide) ?_
              exact ih (v1_9 + (1 : Int32)) (0 : Int32) (u_2.2.1 + (if (¬ ((0 : Int32) = 0)) then (1 : Int32) else (0 : Int32))) u_2.2.2.1 u_2.2.2.2.1 u_2.2.2.2.2 ls (lv_sub hl [0, 1, 2] rfl) H locs hP hS hr
            refine lv_if_eq (tgt := 62) hx hb dX7_fault_55 (by decide) (fun c_7 => ?_) (fun c_7 => ?_)
            · refine lv_iconst (v := (0 : Int32)) hx hb dX7_fault_62 (by decide) ?_
              exact hJ_5 _ (if_neg (fun h => h c_7)).symm ls (lv_sub hl [2, 1, 0] rfl)
            · refine lv_iconst (v := (1 : Int32)) hx hb dX7_fault_58 (by decide) ?_
              refine lv_goto (tgt := 63) hx hb dX7_fault_59 (by decide) ?_
              exact hJ_5 _ (if_pos c_7).symm ls (lv_sub hl [2, 1, 0] rfl)
          · have hr := ite_n hr c_4
            refine lv_aload_n hx hb dX7_fault_34 rfl (lv_at hl 1 rfl) ?_
            obtain ⟨u_8, hu_8, hr⟩ := bd_e hr
            refine ro_V ⟨hx, hb, hml, hown, hts⟩ (k_X7_here l dC dI cI cJ a_o a_o_g a_o_kept a_o_was a_o_triangle a_o_text a_o_sort a_o_size a_o_items o_isKept o_takenBy o_fed u_2.2.1 u_2.2.2.1 u_2.2.2.2.1 u_2.2.2.2.2 o_text u_8 hu_8) (cwV 0 hts gX7_fault_X7_here rfl rfl rfl (by decide +kernel) ⟨Nat.le_of_ble_eq_true rfl, Nat.le_of_ble_eq_true rfl⟩) hE hP 0 rfl rfl rfl (hP.sub [0, 1] rfl) rfl hl.1 rfl (Nat.le_of_ble_eq_true rfl) dX7_fault_35 ⟨Nat.zero_le _, Nat.zero_le _⟩ ?_
            refine lv_bipush (v := (59 : Int32)) hx hb dX7_fault_38 (by decide) ?_
            have hJ_9 : ∀ (y_10 : Int32) (ey_10 : y_10 = (if (u_8 = (59 : Int32)) then (1 : Int32) else (0 : Int32))) (ls : Array Slot), lv_has ls 3 [(0, .ref a_o), (1, .int (v1_9 + (1 : Int32)))] → W p l e rmX7_fault s m args below meth c H locs 0 0 Q (F0 m 48 ls [.int y_10]) := by
              intro y_10 ey_10 ls hl
              subst ey_10
              refine lv_istore_n (lv' := [(2, .int (if (u_8 = (59 : Int32)) then (1 : Int32) else (0 : Int32))), (0, .ref a_o), (1, .int (v1_9 + (1 : Int32)))]) hx hb dX7_fault_48 rfl hl (by decide) rfl (fun ls hl => ?_)
              refine lv_aload_n hx hb dX7_fault_49 rfl (lv_at hl 1 rfl) ?_
              refine lv_dup hx hb dX7_fault_50 rfl ?_
              refine va_get (D := (dC, dI)) (ci := 6) (v := .int u_2.2.1) (C := RX7) (T := TX7) (N := 15) hx hb hts iX7 hown hK hP 0 rfl rfl 8 (by decide) (hts (.fieldLink RX7 102 "PascalRowsModel" "place" "I") (List.mem_of_getElem? (i := 1) rfl)) (fun _ h9 => h9) rfl dX7_fault_51 ?_
              refine lv_iload_n hx hb dX7_fault_54 rfl (lv_at hl 0 rfl) ?_
              have hJ_11 : ∀ (y_12 : Int32) (ey_12 : y_12 = (if (¬ ((if (u_8 = (59 : Int32)) then (1 : Int32) else (0 : Int32)) = 0)) then (1 : Int32) else (0 : Int32))) (ls : Array Slot), lv_has ls 3 [(0, .ref a_o), (1, .int (v1_9 + (1 : Int32))), (2, .int (if (u_8 = (59 : Int32)) then (1 : Int32) else (0 : Int32)))] → W p l e rmX7_fault s m args below meth c H locs 0 0 Q (F0 m 63 ls [.int y_12, .int u_2.2.1, .ref a_o]) := by
                intro y_12 ey_12 ls hl
                have hr := qn_e hr ey_12
                refine lv_iadd hx hb dX7_fault_63 ?_
                refine va_put (D := (dC, dI)) (ci := 6) (v := .int (u_2.2.1 + y_12)) (ty := .int) (C := RX7) (T := TX7) (N := 15) hx hb hts iX7 tyX7 tyX7_ok nmX7 hown hK hP (hD.fst rfl) hS 0 rfl rfl 8 (by decide) (hts (.fieldLink RX7 102 "PascalRowsModel" "place" "I") (List.mem_of_getElem? (i := 1) rfl)) (fun _ h9 => h9) rfl (by decide +kernel) rfl rfl (Nat.le_of_ble_eq_true rfl) dX7_fault_64 (fun H locs hP _ hS => ?_)
                have hP : va_P (dC, dI) vwCl [(a_o, .inr (6, [.ref a_o_g, .ref a_o_kept, .ref a_o_was, .int o_isKept, .ref a_o_triangle, .int o_takenBy, .ref a_o_text, .int o_fed, .int (u_2.2.1 + y_12), .int u_2.2.2.1, .int u_2.2.2.2.1, .int u_2.2.2.2.2, .ref a_o_sort, .ref a_o_size, .ref a_o_items])), (a_o_text, .inl (cI, 100, .inl o_text))] H := hP
                refine lv_goto (tgt := 9) hx hb dX7_fault_67 (by decide) ?_
                exact ih (v1_9 + (1 : Int32)) (if (u_8 = (59 : Int32)) then (1 : Int32) else (0 : Int32)) (u_2.2.1 + y_12) u_2.2.2.1 u_2.2.2.2.1 u_2.2.2.2.2 ls (lv_sub hl [0, 1, 2] rfl) H locs hP hS hr
              refine lv_if_eq (tgt := 62) hx hb dX7_fault_55 (by decide) (fun c_13 => ?_) (fun c_13 => ?_)
              · refine lv_iconst (v := (0 : Int32)) hx hb dX7_fault_62 (by decide) ?_
                exact hJ_11 _ (if_neg (fun h => h c_13)).symm ls (lv_sub hl [1, 2, 0] rfl)
              · refine lv_iconst (v := (1 : Int32)) hx hb dX7_fault_58 (by decide) ?_
                refine lv_goto (tgt := 63) hx hb dX7_fault_59 (by decide) ?_
                exact hJ_11 _ (if_pos c_13).symm ls (lv_sub hl [1, 2, 0] rfl)
            refine lv_icmp_ne (tgt := 47) hx hb dX7_fault_40 (by decide) (fun c_14 => ?_) (fun c_14 => ?_)
            · refine lv_iconst (v := (0 : Int32)) hx hb dX7_fault_47 (by decide) ?_
              exact hJ_9 _ (if_neg c_14).symm ls (lv_sub hl [1, 0] rfl)
            · refine lv_iconst (v := (1 : Int32)) hx hb dX7_fault_43 (by decide) ?_
              refine lv_goto (tgt := 48) hx hb dX7_fault_44 (by decide) ?_
              exact hJ_9 _ (if_pos c_14).symm ls (lv_sub hl [1, 0] rfl)
        · have hr := ite_p hr c_3
          refine lv_aload_n hx hb dX7_fault_20 rfl (lv_at hl 0 rfl) ?_
          refine va_get (D := (dC, dI)) (ci := 6) (v := .int u_2.2.1) (C := RX7) (T := TX7) (N := 15) hx hb hts iX7 hown hK hP 0 rfl rfl 8 (by decide) (hts (.fieldLink RX7 102 "PascalRowsModel" "place" "I") (List.mem_of_getElem? (i := 1) rfl)) (fun _ h9 => h9) rfl dX7_fault_21 ?_
          obtain rfl := Option.some.inj hr
          exact hret H locs _ hP hS (fun Qc free hq hf => W.iret hx hb hrt hq hf dX7_fault_24 hlocks)
  refine hL9  _ (fun xc_o_place_9 xc_o_letter_9 xc_o_first_9 xc_o_second_9 ls hl H locs hP hS hr => ?_) 5000 (0 : Int32) (1 : Int32) (0 : Int32) o_letter o_first o_second ls (lv_sub hl [2, 1, 0] rfl) H locs hP hS hr
  refine lv_aload_n hx hb dX7_fault_70 rfl (lv_at hl 0 rfl) ?_
  refine va_get (D := (dC, dI)) (ci := 6) (v := .int xc_o_place_9) (C := RX7) (T := TX7) (N := 15) hx hb hts iX7 hown hK hP 0 rfl rfl 8 (by decide) (hts (.fieldLink RX7 102 "PascalRowsModel" "place" "I") (List.mem_of_getElem? (i := 1) rfl)) (fun _ h9 => h9) rfl dX7_fault_71 ?_
  refine lv_aload_n hx hb dX7_fault_74 rfl (lv_at hl 0 rfl) ?_
  refine va_get (D := (dC, dI)) (ci := 6) (v := .int o_fed) (C := RX7) (T := TX7) (N := 15) hx hb hts iX7 hown hK hP 0 rfl rfl 7 (by decide) (hts (.fieldLink RX7 99 "PascalRowsModel" "fed" "I") (List.mem_of_getElem? (i := 2) rfl)) (fun _ h9 => h9) rfl dX7_fault_75 ?_
  have hJ_15 : ∀ (y_16 : Int32) (ey_16 : y_16 = (if (o_fed ≤ xc_o_place_9) then (-1 : Int32) else xc_o_place_9)) (ls : Array Slot), lv_has ls 3 [] → W p l e rmX7_fault s m args below meth c H locs 0 0 Q (F0 m 89 ls [.int y_16]) := by
    intro y_16 ey_16 ls hl
    subst ey_16
    obtain rfl := Option.some.inj hr
    exact hret H locs _ hP hS (fun Qc free hq hf => W.iret hx hb hrt hq hf dX7_fault_89 hlocks)
  refine lv_icmp_ge (tgt := 88) hx hb dX7_fault_78 (by decide) (fun c_17 => ?_) (fun c_17 => ?_)
  · refine lv_iconst (v := (-1 : Int32)) hx hb dX7_fault_88 (by decide) ?_
    exact hJ_15 _ (if_pos c_17).symm ls (lv_sub hl [] rfl)
  · refine lv_aload_n hx hb dX7_fault_81 rfl (lv_at hl 0 rfl) ?_
    refine va_get (D := (dC, dI)) (ci := 6) (v := .int xc_o_place_9) (C := RX7) (T := TX7) (N := 15) hx hb hts iX7 hown hK hP 0 rfl rfl 8 (by decide) (hts (.fieldLink RX7 102 "PascalRowsModel" "place" "I") (List.mem_of_getElem? (i := 1) rfl)) (fun _ h9 => h9) rfl dX7_fault_82 ?_
    refine lv_goto (tgt := 89) hx hb dX7_fault_85 (by decide) ?_
    exact hJ_15 _ (if_neg c_17).symm ls (lv_sub hl [] rfl)
/-! X7_isDone -/
def rmX7_isDone : Room := { frames := 3, cells := 0, slots := 0, locals := 68 }
set_option maxHeartbeats 4000000 in
set_option maxRecDepth 100000 in
theorem k_X7_isDone (l : Launch) (dC : Nat → ClassId) (dI : Nat → Nat → Nat) (cI cJ : ClassId) (a_o : Nat) (a_o_g : Nat) (a_o_kept : Nat) (a_o_was : Nat) (a_o_triangle : Nat) (a_o_text : Nat) (a_o_sort : Nat) (a_o_size : Nat) (a_o_items : Nat) (o_isKept : Int32) (o_takenBy : Int32) (o_fed : Int32) (o_place : Int32) (o_letter : Int32) (o_first : Int32) (o_second : Int32) (o_g : Nat → Int32) (sz : Nat) (r : Int32 × (Nat → Int32)) (hr : f_X7_isDone o_g o_letter o_first o_second = some r) : Met l yX7_isDone wsX7_isDone rmX7_isDone (va_Pc [.ref a_o] (pM (dC, dI) cI cJ [(a_o, .inr (6, [.ref a_o_g, .ref a_o_kept, .ref a_o_was, .int o_isKept, .ref a_o_triangle, .int o_takenBy, .ref a_o_text, .int o_fed, .int o_place, .int o_letter, .int o_first, .int o_second, .ref a_o_sort, .ref a_o_size, .ref a_o_items])), (a_o_g, .inl (cI, 64, .inl o_g))] sz)) (qM (some (.int r.1)) (dC, dI) [(a_o, .inr (6, [.ref a_o_g, .ref a_o_kept, .ref a_o_was, .int o_isKept, .ref a_o_triangle, .int o_takenBy, .ref a_o_text, .int o_fed, .int o_place, .int o_letter, .int o_first, .int o_second, .ref a_o_sort, .ref a_o_size, .ref a_o_items])), (a_o_g, .inl (cI, 64, .inl r.2))] (va_A [(a_o, .inr (6, [.ref a_o_g, .ref a_o_kept, .ref a_o_was, .int o_isKept, .ref a_o_triangle, .int o_takenBy, .ref a_o_text, .int o_fed, .int o_place, .int o_letter, .int o_first, .int o_second, .ref a_o_sort, .ref a_o_size, .ref a_o_items])), (a_o_g, .inl (cI, 64, .inl o_g))] sz)) 0 0 (va_A [(a_o, .inr (6, [.ref a_o_g, .ref a_o_kept, .ref a_o_was, .int o_isKept, .ref a_o_triangle, .int o_takenBy, .ref a_o_text, .int o_fed, .int o_place, .int o_letter, .int o_first, .int o_second, .ref a_o_sort, .ref a_o_size, .ref a_o_items])), (a_o_g, .inl (cI, 64, .inl o_g))] sz) := by
  refine mu_of (cc := cX7_isDone) (maxL := 1) (by decide) rfl (Nat.le_of_ble_eq_true rfl) ?_
  intro p e s m args below meth c Q ls A hx hb hml hown hts hE hP hD hA hrt hlocks hret hl
  have hK := hE.1
  have hS : va_S A s.heap s.heap [] := va_S.rf
  have hl : lv_has ls 1 [(0, .ref a_o)] := hl
  unfold f_X7_isDone at hr
  obtain ⟨H, hHe⟩ : ∃ H, H = s.heap := ⟨_, rfl⟩
  obtain ⟨locs, hLe⟩ : ∃ locs : List Loc, locs = [] := ⟨_, rfl⟩
  suffices hgo : va_P (dC, dI) vwCl [(a_o, .inr (6, [.ref a_o_g, .ref a_o_kept, .ref a_o_was, .int o_isKept, .ref a_o_triangle, .int o_takenBy, .ref a_o_text, .int o_fed, .int o_place, .int o_letter, .int o_first, .int o_second, .ref a_o_sort, .ref a_o_size, .ref a_o_items])), (a_o_g, .inl (cI, 64, .inl o_g))] H → va_S A s.heap H locs → W p l e rmX7_isDone s m args below meth c H locs 0 0 Q (F0 m 0 ls []) by
    subst hHe; subst hLe; exact hgo hP hS
  clear hP hS hHe hLe
  intro hP hS
  have iX7 : ∀ w ∈ wsX70, w ∈ wsX7_isDone := memr_ (big := wsX7_isDone) wsX70 [41, 42, 43, 44, 45, 46, 47, 48, 49, 50, 51, 52, 53, 54, 55] (by decide +kernel)
  refine lv_aload_n hx hb dX7_isDone_0 rfl (lv_at hl 0 rfl) ?_
  refine va_get (D := (dC, dI)) (ci := 6) (v := .int o_letter) (C := RX7) (T := TX7) (N := 15) hx hb hts iX7 hown hK hP 0 rfl rfl 9 (by decide) (hts (.fieldLink RX7 112 "PascalRowsModel" "letter" "I") (List.mem_of_getElem? (i := 1) rfl)) (fun _ h9 => h9) rfl dX7_isDone_1 ?_
  by_cases c_1 : o_letter = (101 : Int32)
  · have hr := ite_p hr c_1
    refine W.eq (g2 := F0 m 4 ls (.int (101 : Int32) :: [])) (congrArg (fun z => F0 m 4 ls (.int z :: [])) c_1) ?_
    refine lv_lookup (tgt := 65) hx hb dX7_isDone_4 (by decide) (by first | rfl | decide) (by decide) ?_
    refine lv_aload_n hx hb dX7_isDone_65 rfl (lv_at hl 0 rfl) ?_
    refine lv_aload_n hx hb dX7_isDone_66 rfl (lv_at hl 0 rfl) ?_
    refine va_get (D := (dC, dI)) (ci := 6) (v := .int o_first) (C := RX7) (T := TX7) (N := 15) hx hb hts iX7 hown hK hP 0 rfl rfl 10 (by decide) (hts (.fieldLink RX7 119 "PascalRowsModel" "first" "I") (List.mem_of_getElem? (i := 2) rfl)) (fun _ h9 => h9) rfl dX7_isDone_67 ?_
    obtain ⟨u_2, hu_2, hr⟩ := bd_e hr
    refine mu_V ⟨hx, hb, hml, hown, hts⟩ (k_X7_power_ l dC dI cI cJ a_o a_o_g a_o_kept a_o_was a_o_triangle a_o_text a_o_sort a_o_size a_o_items o_first o_isKept o_takenBy o_fed o_place o_letter o_first o_second o_g H.size u_2 hu_2) (cwV 1 hts gX7_isDone_X7_power_ rfl rfl rfl (by decide +kernel) ⟨Nat.le_of_ble_eq_true rfl, Nat.le_of_ble_eq_true rfl⟩) hE 0 rfl rfl rfl rfl hl.1 rfl (Nat.le_of_ble_eq_true rfl) dX7_isDone_70 ⟨Nat.zero_le _, Nat.zero_le _⟩ hP (hD.fst rfl) hS hA [0, 1] [] [0, 1] rfl rfl (by decide) (by decide) rfl (by decide) (W1 := [(a_o, .inr (6, [.ref a_o_g, .ref a_o_kept, .ref a_o_was, .int o_isKept, .ref a_o_triangle, .int o_takenBy, .ref a_o_text, .int o_fed, .int o_place, .int o_letter, .int o_first, .int o_second, .ref a_o_sort, .ref a_o_size, .ref a_o_items])), (a_o_g, .inl (cI, 64, .inl u_2.2))]) rfl (fun H locs hP hS => W.eq (g2 := F0 m 73 ls [.int u_2.1]) rfl ?_)
    have hJ_3 : ∀ (y_4 : Int32) (ey_4 : y_4 = (if (¬ (u_2.1 < 0)) then (1 : Int32) else (0 : Int32))) (ls : Array Slot), lv_has ls 1 [] → W p l e rmX7_isDone s m args below meth c H locs 0 0 Q (F0 m 81 ls [.int y_4]) := by
      intro y_4 ey_4 ls hl
      subst ey_4
      obtain rfl := Option.some.inj hr
      exact hret H locs _ hP hS (fun Qc free hq hf => W.zret hx hb hrt (nz_ (nb_lit _)) hq hf dX7_isDone_81 hlocks)
    refine lv_if_lt (tgt := 80) hx hb dX7_isDone_73 (by decide) (fun c_5 => ?_) (fun c_5 => ?_)
    · refine lv_iconst (v := (0 : Int32)) hx hb dX7_isDone_80 (by decide) ?_
      exact hJ_3 _ (if_neg (fun h => h c_5)).symm ls (lv_sub hl [] rfl)
    · refine lv_iconst (v := (1 : Int32)) hx hb dX7_isDone_76 (by decide) ?_
      refine lv_goto (tgt := 81) hx hb dX7_isDone_77 (by decide) ?_
      exact hJ_3 _ (if_pos c_5).symm ls (lv_sub hl [] rfl)
  have hr := ite_n hr c_1
  by_cases c_6 : o_letter = (109 : Int32)
  · have hr := ite_p hr c_6
    refine W.eq (g2 := F0 m 4 ls (.int (109 : Int32) :: [])) (congrArg (fun z => F0 m 4 ls (.int z :: [])) c_6) ?_
    refine lv_lookup (tgt := 82) hx hb dX7_isDone_4 (by decide) (by first | rfl | decide) (by decide) ?_
    refine lv_aload_n hx hb dX7_isDone_82 rfl (lv_at hl 0 rfl) ?_
    refine lv_aload_n hx hb dX7_isDone_83 rfl (lv_at hl 0 rfl) ?_
    refine va_get (D := (dC, dI)) (ci := 6) (v := .int o_first) (C := RX7) (T := TX7) (N := 15) hx hb hts iX7 hown hK hP 0 rfl rfl 10 (by decide) (hts (.fieldLink RX7 119 "PascalRowsModel" "first" "I") (List.mem_of_getElem? (i := 2) rfl)) (fun _ h9 => h9) rfl dX7_isDone_84 ?_
    refine lv_aload_n hx hb dX7_isDone_87 rfl (lv_at hl 0 rfl) ?_
    refine va_get (D := (dC, dI)) (ci := 6) (v := .int o_second) (C := RX7) (T := TX7) (N := 15) hx hb hts iX7 hown hK hP 0 rfl rfl 11 (by decide) (hts (.fieldLink RX7 122 "PascalRowsModel" "second" "I") (List.mem_of_getElem? (i := 3) rfl)) (fun _ h9 => h9) rfl dX7_isDone_88 ?_
    obtain ⟨u_7, hu_7, hr⟩ := bd_e hr
    refine mu_V ⟨hx, hb, hml, hown, hts⟩ (k_X7_mark l dC dI cI cJ a_o a_o_g a_o_kept a_o_was a_o_triangle a_o_text a_o_sort a_o_size a_o_items o_first o_second o_isKept o_takenBy o_fed o_place o_letter o_first o_second o_g H.size u_7 hu_7) (cwV 2 hts gX7_isDone_X7_mark rfl rfl rfl (by decide +kernel) ⟨Nat.le_of_ble_eq_true rfl, Nat.le_of_ble_eq_true rfl⟩) hE 0 rfl rfl rfl rfl hl.1 rfl (Nat.le_of_ble_eq_true rfl) dX7_isDone_91 ⟨Nat.zero_le _, Nat.zero_le _⟩ hP (hD.fst rfl) hS hA [0, 1] [] [0, 1] rfl rfl (by decide) (by decide) rfl (by decide) (W1 := [(a_o, .inr (6, [.ref a_o_g, .ref a_o_kept, .ref a_o_was, .int o_isKept, .ref a_o_triangle, .int o_takenBy, .ref a_o_text, .int o_fed, .int o_place, .int o_letter, .int o_first, .int o_second, .ref a_o_sort, .ref a_o_size, .ref a_o_items])), (a_o_g, .inl (cI, 64, .inl u_7.2))]) rfl (fun H locs hP hS => W.eq (g2 := F0 m 94 ls [.int u_7.1]) rfl ?_)
    have hJ_8 : ∀ (y_9 : Int32) (ey_9 : y_9 = (if (¬ (u_7.1 < 0)) then (1 : Int32) else (0 : Int32))) (ls : Array Slot), lv_has ls 1 [] → W p l e rmX7_isDone s m args below meth c H locs 0 0 Q (F0 m 102 ls [.int y_9]) := by
      intro y_9 ey_9 ls hl
      subst ey_9
      obtain rfl := Option.some.inj hr
      exact hret H locs _ hP hS (fun Qc free hq hf => W.zret hx hb hrt (nz_ (nb_lit _)) hq hf dX7_isDone_102 hlocks)
    refine lv_if_lt (tgt := 101) hx hb dX7_isDone_94 (by decide) (fun c_10 => ?_) (fun c_10 => ?_)
    · refine lv_iconst (v := (0 : Int32)) hx hb dX7_isDone_101 (by decide) ?_
      exact hJ_8 _ (if_neg (fun h => h c_10)).symm ls (lv_sub hl [] rfl)
    · refine lv_iconst (v := (1 : Int32)) hx hb dX7_isDone_97 (by decide) ?_
      refine lv_goto (tgt := 102) hx hb dX7_isDone_98 (by decide) ?_
      exact hJ_8 _ (if_pos c_10).symm ls (lv_sub hl [] rfl)
  have hr := ite_n hr c_6
  by_cases c_11 : o_letter = (112 : Int32)
  · have hr := ite_p hr c_11
    refine W.eq (g2 := F0 m 4 ls (.int (112 : Int32) :: [])) (congrArg (fun z => F0 m 4 ls (.int z :: [])) c_11) ?_
    refine lv_lookup (tgt := 48) hx hb dX7_isDone_4 (by decide) (by first | rfl | decide) (by decide) ?_
    refine lv_aload_n hx hb dX7_isDone_48 rfl (lv_at hl 0 rfl) ?_
    refine lv_aload_n hx hb dX7_isDone_49 rfl (lv_at hl 0 rfl) ?_
    refine va_get (D := (dC, dI)) (ci := 6) (v := .int o_first) (C := RX7) (T := TX7) (N := 15) hx hb hts iX7 hown hK hP 0 rfl rfl 10 (by decide) (hts (.fieldLink RX7 119 "PascalRowsModel" "first" "I") (List.mem_of_getElem? (i := 2) rfl)) (fun _ h9 => h9) rfl dX7_isDone_50 ?_
    obtain ⟨u_12, hu_12, hr⟩ := bd_e hr
    refine mu_V ⟨hx, hb, hml, hown, hts⟩ (k_X7_prime l dC dI cI cJ a_o a_o_g a_o_kept a_o_was a_o_triangle a_o_text a_o_sort a_o_size a_o_items o_first o_isKept o_takenBy o_fed o_place o_letter o_first o_second o_g H.size u_12 hu_12) (cwV 1 hts gX7_isDone_X7_prime rfl rfl rfl (by decide +kernel) ⟨Nat.le_of_ble_eq_true rfl, Nat.le_of_ble_eq_true rfl⟩) hE 0 rfl rfl rfl rfl hl.1 rfl (Nat.le_of_ble_eq_true rfl) dX7_isDone_53 ⟨Nat.zero_le _, Nat.zero_le _⟩ hP (hD.fst rfl) hS hA [0, 1] [] [0, 1] rfl rfl (by decide) (by decide) rfl (by decide) (W1 := [(a_o, .inr (6, [.ref a_o_g, .ref a_o_kept, .ref a_o_was, .int o_isKept, .ref a_o_triangle, .int o_takenBy, .ref a_o_text, .int o_fed, .int o_place, .int o_letter, .int o_first, .int o_second, .ref a_o_sort, .ref a_o_size, .ref a_o_items])), (a_o_g, .inl (cI, 64, .inl u_12.2))]) rfl (fun H locs hP hS => W.eq (g2 := F0 m 56 ls [.int u_12.1]) rfl ?_)
    have hJ_13 : ∀ (y_14 : Int32) (ey_14 : y_14 = (if (¬ (u_12.1 < 0)) then (1 : Int32) else (0 : Int32))) (ls : Array Slot), lv_has ls 1 [] → W p l e rmX7_isDone s m args below meth c H locs 0 0 Q (F0 m 64 ls [.int y_14]) := by
      intro y_14 ey_14 ls hl
      subst ey_14
      obtain rfl := Option.some.inj hr
      exact hret H locs _ hP hS (fun Qc free hq hf => W.zret hx hb hrt (nz_ (nb_lit _)) hq hf dX7_isDone_64 hlocks)
    refine lv_if_lt (tgt := 63) hx hb dX7_isDone_56 (by decide) (fun c_15 => ?_) (fun c_15 => ?_)
    · refine lv_iconst (v := (0 : Int32)) hx hb dX7_isDone_63 (by decide) ?_
      exact hJ_13 _ (if_neg (fun h => h c_15)).symm ls (lv_sub hl [] rfl)
    · refine lv_iconst (v := (1 : Int32)) hx hb dX7_isDone_59 (by decide) ?_
      refine lv_goto (tgt := 64) hx hb dX7_isDone_60 (by decide) ?_
      exact hJ_13 _ (if_pos c_15).symm ls (lv_sub hl [] rfl)
  have hr := ite_n hr c_11
  by_cases c_16 : o_letter = (120 : Int32)
  · have hr := ite_p hr c_16
    refine W.eq (g2 := F0 m 4 ls (.int (120 : Int32) :: [])) (congrArg (fun z => F0 m 4 ls (.int z :: [])) c_16) ?_
    refine lv_lookup (tgt := 103) hx hb dX7_isDone_4 (by decide) (by first | rfl | decide) (by decide) ?_
    refine lv_aload_n hx hb dX7_isDone_103 rfl (lv_at hl 0 rfl) ?_
    obtain ⟨u_17, hu_17, hr⟩ := bd_e hr
    refine mu_V ⟨hx, hb, hml, hown, hts⟩ (k_X7_clear l dC dI cI cJ a_o a_o_g a_o_kept a_o_was a_o_triangle a_o_text a_o_sort a_o_size a_o_items o_isKept o_takenBy o_fed o_place o_letter o_first o_second o_g H.size u_17 hu_17) (cwV 0 hts gX7_isDone_X7_clear rfl rfl rfl (by decide +kernel) ⟨Nat.le_of_ble_eq_true rfl, Nat.le_of_ble_eq_true rfl⟩) hE 0 rfl rfl rfl rfl hl.1 rfl (Nat.le_of_ble_eq_true rfl) dX7_isDone_104 ⟨Nat.zero_le _, Nat.zero_le _⟩ hP (hD.fst rfl) hS hA [0, 1] [] [0, 1] rfl rfl (by decide) (by decide) rfl (by decide) (W1 := [(a_o, .inr (6, [.ref a_o_g, .ref a_o_kept, .ref a_o_was, .int o_isKept, .ref a_o_triangle, .int o_takenBy, .ref a_o_text, .int o_fed, .int o_place, .int o_letter, .int o_first, .int o_second, .ref a_o_sort, .ref a_o_size, .ref a_o_items])), (a_o_g, .inl (cI, 64, .inl u_17.2))]) rfl (fun H locs hP hS => W.eq (g2 := F0 m 107 ls [.int u_17.1]) rfl ?_)
    have hJ_18 : ∀ (y_19 : Int32) (ey_19 : y_19 = (if (¬ (u_17.1 < 0)) then (1 : Int32) else (0 : Int32))) (ls : Array Slot), lv_has ls 1 [] → W p l e rmX7_isDone s m args below meth c H locs 0 0 Q (F0 m 115 ls [.int y_19]) := by
      intro y_19 ey_19 ls hl
      subst ey_19
      obtain rfl := Option.some.inj hr
      exact hret H locs _ hP hS (fun Qc free hq hf => W.zret hx hb hrt (nz_ (nb_lit _)) hq hf dX7_isDone_115 hlocks)
    refine lv_if_lt (tgt := 114) hx hb dX7_isDone_107 (by decide) (fun c_20 => ?_) (fun c_20 => ?_)
    · refine lv_iconst (v := (0 : Int32)) hx hb dX7_isDone_114 (by decide) ?_
      exact hJ_18 _ (if_neg (fun h => h c_20)).symm ls (lv_sub hl [] rfl)
    · refine lv_iconst (v := (1 : Int32)) hx hb dX7_isDone_110 (by decide) ?_
      refine lv_goto (tgt := 115) hx hb dX7_isDone_111 (by decide) ?_
      exact hJ_18 _ (if_pos c_20).symm ls (lv_sub hl [] rfl)
  have hr := ite_n hr c_16
  refine lv_lookup (tgt := 116) hx hb dX7_isDone_4 (by decide) (lks_out (fun k h => ?_)) (by decide) ?_
  · simp only [List.map, List.mem_cons, List.not_mem_nil, or_false] at h
    rcases h with rfl | rfl | rfl | rfl
    · exact i32_ne c_1 rfl
    · exact i32_ne c_6 rfl
    · exact i32_ne c_11 rfl
    · exact i32_ne c_16 rfl
  refine lv_aload_n hx hb dX7_isDone_116 rfl (lv_at hl 0 rfl) ?_
  refine lv_aload_n hx hb dX7_isDone_117 rfl (lv_at hl 0 rfl) ?_
  refine va_get (D := (dC, dI)) (ci := 6) (v := .int o_first) (C := RX7) (T := TX7) (N := 15) hx hb hts iX7 hown hK hP 0 rfl rfl 10 (by decide) (hts (.fieldLink RX7 119 "PascalRowsModel" "first" "I") (List.mem_of_getElem? (i := 2) rfl)) (fun _ h9 => h9) rfl dX7_isDone_118 ?_
  refine lv_aload_n hx hb dX7_isDone_121 rfl (lv_at hl 0 rfl) ?_
  refine va_get (D := (dC, dI)) (ci := 6) (v := .int o_second) (C := RX7) (T := TX7) (N := 15) hx hb hts iX7 hown hK hP 0 rfl rfl 11 (by decide) (hts (.fieldLink RX7 122 "PascalRowsModel" "second" "I") (List.mem_of_getElem? (i := 3) rfl)) (fun _ h9 => h9) rfl dX7_isDone_122 ?_
  obtain ⟨u_21, hu_21, hr⟩ := bd_e hr
  refine mu_V ⟨hx, hb, hml, hown, hts⟩ (k_X7_window l dC dI cI cJ a_o a_o_g a_o_kept a_o_was a_o_triangle a_o_text a_o_sort a_o_size a_o_items o_first o_second o_isKept o_takenBy o_fed o_place o_letter o_first o_second o_g H.size u_21 hu_21) (cwV 2 hts gX7_isDone_X7_window rfl rfl rfl (by decide +kernel) ⟨Nat.le_of_ble_eq_true rfl, Nat.le_of_ble_eq_true rfl⟩) hE 0 rfl rfl rfl rfl hl.1 rfl (Nat.le_of_ble_eq_true rfl) dX7_isDone_125 ⟨Nat.zero_le _, Nat.zero_le _⟩ hP (hD.fst rfl) hS hA [0, 1] [] [0, 1] rfl rfl (by decide) (by decide) rfl (by decide) (W1 := [(a_o, .inr (6, [.ref a_o_g, .ref a_o_kept, .ref a_o_was, .int o_isKept, .ref a_o_triangle, .int o_takenBy, .ref a_o_text, .int o_fed, .int o_place, .int o_letter, .int o_first, .int o_second, .ref a_o_sort, .ref a_o_size, .ref a_o_items])), (a_o_g, .inl (cI, 64, .inl u_21.2))]) rfl (fun H locs hP hS => W.eq (g2 := F0 m 128 ls [.int u_21.1]) rfl ?_)
  have hJ_22 : ∀ (y_23 : Int32) (ey_23 : y_23 = (if (¬ (u_21.1 < 0)) then (1 : Int32) else (0 : Int32))) (ls : Array Slot), lv_has ls 1 [] → W p l e rmX7_isDone s m args below meth c H locs 0 0 Q (F0 m 136 ls [.int y_23]) := by
    intro y_23 ey_23 ls hl
    subst ey_23
    obtain rfl := Option.some.inj hr
    exact hret H locs _ hP hS (fun Qc free hq hf => W.zret hx hb hrt (nz_ (nb_lit _)) hq hf dX7_isDone_136 hlocks)
  refine lv_if_lt (tgt := 135) hx hb dX7_isDone_128 (by decide) (fun c_24 => ?_) (fun c_24 => ?_)
  · refine lv_iconst (v := (0 : Int32)) hx hb dX7_isDone_135 (by decide) ?_
    exact hJ_22 _ (if_neg (fun h => h c_24)).symm ls (lv_sub hl [] rfl)
  · refine lv_iconst (v := (1 : Int32)) hx hb dX7_isDone_131 (by decide) ?_
    refine lv_goto (tgt := 136) hx hb dX7_isDone_132 (by decide) ?_
    exact hJ_22 _ (if_pos c_24).symm ls (lv_sub hl [] rfl)
/-! X7_read -/
def rmX7_read : Room := { frames := 4, cells := 0, slots := 0, locals := 90 }
set_option maxHeartbeats 4000000 in
set_option maxRecDepth 100000 in
theorem k_X7_read (l : Launch) (dC : Nat → ClassId) (dI : Nat → Nat → Nat) (cI cJ : ClassId) (a_o : Nat) (a_o_g : Nat) (a_o_kept : Nat) (a_o_was : Nat) (a_o_triangle : Nat) (a_o_text : Nat) (a_o_sort : Nat) (a_o_size : Nat) (a_o_items : Nat) (o_isKept : Int32) (o_takenBy : Int32) (o_fed : Int32) (o_place : Int32) (o_letter : Int32) (o_first : Int32) (o_second : Int32) (o_g : Nat → Int32) (o_text : Nat → Int32) (sz : Nat) (r : Int32 × (Nat → Int32) × Int32 × Int32 × Int32 × Int32 × Int32) (hr : f_X7_read o_g o_text o_fed o_place o_letter o_first o_second = some r) : Met l yX7_read wsX7_read rmX7_read (va_Pc [.ref a_o] (pM (dC, dI) cI cJ [(a_o, .inr (6, [.ref a_o_g, .ref a_o_kept, .ref a_o_was, .int o_isKept, .ref a_o_triangle, .int o_takenBy, .ref a_o_text, .int o_fed, .int o_place, .int o_letter, .int o_first, .int o_second, .ref a_o_sort, .ref a_o_size, .ref a_o_items])), (a_o_g, .inl (cI, 64, .inl o_g)), (a_o_text, .inl (cI, 100, .inl o_text))] sz)) (qM (some (.int r.1)) (dC, dI) [(a_o, .inr (6, [.ref a_o_g, .ref a_o_kept, .ref a_o_was, .int o_isKept, .ref a_o_triangle, .int o_takenBy, .ref a_o_text, .int r.2.2.1, .int r.2.2.2.1, .int r.2.2.2.2.1, .int r.2.2.2.2.2.1, .int r.2.2.2.2.2.2, .ref a_o_sort, .ref a_o_size, .ref a_o_items])), (a_o_g, .inl (cI, 64, .inl r.2.1)), (a_o_text, .inl (cI, 100, .inl o_text))] (va_A [(a_o, .inr (6, [.ref a_o_g, .ref a_o_kept, .ref a_o_was, .int o_isKept, .ref a_o_triangle, .int o_takenBy, .ref a_o_text, .int o_fed, .int o_place, .int o_letter, .int o_first, .int o_second, .ref a_o_sort, .ref a_o_size, .ref a_o_items])), (a_o_g, .inl (cI, 64, .inl o_g)), (a_o_text, .inl (cI, 100, .inl o_text))] sz)) 0 0 (va_A [(a_o, .inr (6, [.ref a_o_g, .ref a_o_kept, .ref a_o_was, .int o_isKept, .ref a_o_triangle, .int o_takenBy, .ref a_o_text, .int o_fed, .int o_place, .int o_letter, .int o_first, .int o_second, .ref a_o_sort, .ref a_o_size, .ref a_o_items])), (a_o_g, .inl (cI, 64, .inl o_g)), (a_o_text, .inl (cI, 100, .inl o_text))] sz) := by
  refine mu_of (cc := cX7_read) (maxL := 4) (by decide) rfl (Nat.le_of_ble_eq_true rfl) ?_
  intro p e s m args below meth c Q ls A hx hb hml hown hts hE hP hD hA hrt hlocks hret hl
  have hK := hE.1
  have hS : va_S A s.heap s.heap [] := va_S.rf
  have hl : lv_has ls 4 [(0, .ref a_o)] := hl
  unfold f_X7_read at hr
  obtain ⟨H, hHe⟩ : ∃ H, H = s.heap := ⟨_, rfl⟩
  obtain ⟨locs, hLe⟩ : ∃ locs : List Loc, locs = [] := ⟨_, rfl⟩
  suffices hgo : va_P (dC, dI) vwCl [(a_o, .inr (6, [.ref a_o_g, .ref a_o_kept, .ref a_o_was, .int o_isKept, .ref a_o_triangle, .int o_takenBy, .ref a_o_text, .int o_fed, .int o_place, .int o_letter, .int o_first, .int o_second, .ref a_o_sort, .ref a_o_size, .ref a_o_items])), (a_o_g, .inl (cI, 64, .inl o_g)), (a_o_text, .inl (cI, 100, .inl o_text))] H → va_S A s.heap H locs → W p l e rmX7_read s m args below meth c H locs 0 0 Q (F0 m 0 ls []) by
    subst hHe; subst hLe; exact hgo hP hS
  clear hP hS hHe hLe
  intro hP hS
  have iX7 : ∀ w ∈ wsX70, w ∈ wsX7_read := memr_ (big := wsX7_read) wsX70 [66, 67, 68, 69, 70, 71, 72, 73, 74, 75, 76, 77, 78, 79, 80] (by decide +kernel)
  refine lv_aload_n hx hb dX7_read_0 rfl (lv_at hl 0 rfl) ?_
  obtain ⟨u_1, hu_1, hr⟩ := bd_e hr
  refine mu_V ⟨hx, hb, hml, hown, hts⟩ (k_X7_fault l dC dI cI cJ a_o a_o_g a_o_kept a_o_was a_o_triangle a_o_text a_o_sort a_o_size a_o_items o_isKept o_takenBy o_fed o_place o_letter o_first o_second o_text H.size u_1 hu_1) (cwV 0 hts gX7_read_X7_fault rfl rfl rfl (by decide +kernel) ⟨Nat.le_of_ble_eq_true rfl, Nat.le_of_ble_eq_true rfl⟩) hE 0 rfl rfl rfl rfl hl.1 rfl (Nat.le_of_ble_eq_true rfl) dX7_read_1 ⟨Nat.zero_le _, Nat.zero_le _⟩ hP (hD.fst rfl) hS hA [0, 2] [1] [1, 0, 2] rfl rfl (by decide) (by decide) rfl (by decide) (W1 := [(a_o, .inr (6, [.ref a_o_g, .ref a_o_kept, .ref a_o_was, .int o_isKept, .ref a_o_triangle, .int o_takenBy, .ref a_o_text, .int o_fed, .int u_1.2.1, .int u_1.2.2.1, .int u_1.2.2.2.1, .int u_1.2.2.2.2, .ref a_o_sort, .ref a_o_size, .ref a_o_items])), (a_o_g, .inl (cI, 64, .inl o_g)), (a_o_text, .inl (cI, 100, .inl o_text))]) rfl (fun H locs hP hS => W.eq (g2 := F0 m 4 ls [.int u_1.1]) rfl ?_)
  refine lv_istore_n (lv' := [(1, .int u_1.1), (0, .ref a_o)]) hx hb dX7_read_4 rfl hl (by decide) rfl (fun ls hl => ?_)
  refine lv_iconst (v := (0 : Int32)) hx hb dX7_read_5 (by decide) ?_
  refine lv_istore_n (lv' := [(2, .int (0 : Int32)), (1, .int u_1.1), (0, .ref a_o)]) hx hb dX7_read_6 rfl hl (by decide) rfl (fun ls hl => ?_)
  refine lv_aload_n hx hb dX7_read_7 rfl (lv_at hl 2 rfl) ?_
  refine lv_iconst (v := (0 : Int32)) hx hb dX7_read_8 (by decide) ?_
  refine va_put (D := (dC, dI)) (ci := 6) (v := .int (0 : Int32)) (ty := .int) (C := RX7) (T := TX7) (N := 15) hx hb hts iX7 tyX7 tyX7_ok nmX7 hown hK hP (hD.fst rfl) hS 0 rfl rfl 8 (by decide) (hts (.fieldLink RX7 102 "PascalRowsModel" "place" "I") (List.mem_of_getElem? (i := 1) rfl)) (fun _ h9 => h9) rfl (by decide +kernel) rfl rfl (Nat.le_of_ble_eq_true rfl) dX7_read_9 (fun H locs hP _ hS => ?_)
  have hP : va_P (dC, dI) vwCl [(a_o, .inr (6, [.ref a_o_g, .ref a_o_kept, .ref a_o_was, .int o_isKept, .ref a_o_triangle, .int o_takenBy, .ref a_o_text, .int o_fed, .int (0 : Int32), .int u_1.2.2.1, .int u_1.2.2.2.1, .int u_1.2.2.2.2, .ref a_o_sort, .ref a_o_size, .ref a_o_items])), (a_o_g, .inl (cI, 64, .inl o_g)), (a_o_text, .inl (cI, 100, .inl o_text))] H := hP
  have hL12 : ∀ (v1_12 : Int32) (o_fed_12 : Int32) (k_12 : Int32 → (Nat → Int32) → (Int32) → (Int32) → (Int32) → (Int32) → Option (Int32 × (Nat → Int32) × Int32 × Int32 × Int32 × Int32 × Int32)) (hk : ∀ (x2_12 : Int32) (xc_o_g_12 : Nat → Int32) (xc_o_place_12 : Int32) (xc_o_letter_12 : Int32) (xc_o_first_12 : Int32) (xc_o_second_12 : Int32) (ls : Array Slot), lv_has ls 4 [(0, .ref a_o), (1, .int v1_12), (2, .int x2_12)] → ∀ (H : Heap) (locs : List Loc), va_P (dC, dI) vwCl [(a_o, .inr (6, [.ref a_o_g, .ref a_o_kept, .ref a_o_was, .int o_isKept, .ref a_o_triangle, .int o_takenBy, .ref a_o_text, .int o_fed_12, .int xc_o_place_12, .int xc_o_letter_12, .int xc_o_first_12, .int xc_o_second_12, .ref a_o_sort, .ref a_o_size, .ref a_o_items])), (a_o_g, .inl (cI, 64, .inl xc_o_g_12)), (a_o_text, .inl (cI, 100, .inl o_text))] H → va_S A s.heap H locs →  k_12 x2_12 xc_o_g_12 xc_o_place_12 xc_o_letter_12 xc_o_first_12 xc_o_second_12 = some r → W p l e rmX7_read s m args below meth c H locs 0 0 Q (F0 m 65 ls [])) (fuel : Nat) (v2_12 : Int32) (o_g_12 : Nat → Int32) (o_place_12 : Int32) (o_letter_12 : Int32) (o_first_12 : Int32) (o_second_12 : Int32) (ls : Array Slot), lv_has ls 4 [(0, .ref a_o), (1, .int v1_12), (2, .int v2_12)] → ∀ (H : Heap) (locs : List Loc), va_P (dC, dI) vwCl [(a_o, .inr (6, [.ref a_o_g, .ref a_o_kept, .ref a_o_was, .int o_isKept, .ref a_o_triangle, .int o_takenBy, .ref a_o_text, .int o_fed_12, .int o_place_12, .int o_letter_12, .int o_first_12, .int o_second_12, .ref a_o_sort, .ref a_o_size, .ref a_o_items])), (a_o_g, .inl (cI, 64, .inl o_g_12)), (a_o_text, .inl (cI, 100, .inl o_text))] H → va_S A s.heap H locs → f_X7_read_L12 k_12 v1_12 o_fed_12 o_text fuel v2_12 o_g_12 o_place_12 o_letter_12 o_first_12 o_second_12 = some r → W p l e rmX7_read s m args below meth c H locs 0 0 Q (F0 m 12 ls []) := by
    intro v1_12 o_fed_12 k_12 hk fuel
    induction fuel with
    | zero =>
      intro v2_12 o_g_12 o_place_12 o_letter_12 o_first_12 o_second_12 ls hl H locs hP hS hr
      rw [f_X7_read_L12_z] at hr
      cases hr
    | succ fuel ih =>
      intro v2_12 o_g_12 o_place_12 o_letter_12 o_first_12 o_second_12 ls hl H locs hP hS hr
      rw [f_X7_read_L12_s] at hr
      refine lv_iload_n hx hb dX7_read_12 rfl (lv_at hl 1 rfl) ?_
      refine lv_iconst (v := (-1 : Int32)) hx hb dX7_read_13 (by decide) ?_
      have tT_3 : ((v1_12 = (-1 : Int32)) ∧ (¬ (o_fed_12 ≤ o_place_12))) → W p l e rmX7_read s m args below meth c H locs 0 0 Q (F0 m 28 ls []) := by
        intro hc_2
        have hr := ite_p hr hc_2
        refine lv_aload_n hx hb dX7_read_28 rfl (lv_at hl 0 rfl) ?_
        obtain ⟨u_4, hu_4, hr⟩ := bd_e hr
        refine mu_V ⟨hx, hb, hml, hown, hts⟩ (k_X7_readsClause l dC dI cI cJ a_o a_o_g a_o_kept a_o_was a_o_triangle a_o_text a_o_sort a_o_size a_o_items o_isKept o_takenBy o_fed_12 o_place_12 o_letter_12 o_first_12 o_second_12 o_text H.size u_4 hu_4) (cwV 0 hts gX7_read_X7_readsClause rfl rfl rfl (by decide +kernel) ⟨Nat.le_of_ble_eq_true rfl, Nat.le_of_ble_eq_true rfl⟩) hE 0 rfl rfl rfl rfl hl.1 rfl (Nat.le_of_ble_eq_true rfl) dX7_read_29 ⟨Nat.zero_le _, Nat.zero_le _⟩ hP (hD.fst rfl) hS hA [0, 2] [1] [1, 0, 2] rfl rfl (by decide) (by decide) rfl (by decide) (W1 := [(a_o, .inr (6, [.ref a_o_g, .ref a_o_kept, .ref a_o_was, .int o_isKept, .ref a_o_triangle, .int o_takenBy, .ref a_o_text, .int o_fed_12, .int u_4.2.1, .int u_4.2.2.1, .int u_4.2.2.2.1, .int u_4.2.2.2.2, .ref a_o_sort, .ref a_o_size, .ref a_o_items])), (a_o_g, .inl (cI, 64, .inl o_g_12)), (a_o_text, .inl (cI, 100, .inl o_text))]) rfl (fun H locs hP hS => W.eq (g2 := F0 m 32 ls [.int u_4.1]) rfl ?_)
        refine lv_istore_n (lv' := [(3, .int u_4.1), (0, .ref a_o), (1, .int v1_12), (2, .int v2_12)]) hx hb dX7_read_32 rfl hl (by decide) rfl (fun ls hl => ?_)
        refine lv_iload_n hx hb dX7_read_33 rfl (lv_at hl 3 rfl) ?_
        refine lv_iload_n hx hb dX7_read_34 rfl (lv_at hl 0 rfl) ?_
        refine lv_if_eq (tgt := 49) hx hb dX7_read_35 (by decide) (fun c_5 => ?_) (fun c_5 => ?_)
        · have hr := ite_p hr c_5
          refine lv_iconst (v := (0 : Int32)) hx hb dX7_read_49 (by decide) ?_
          refine lv_iadd hx hb dX7_read_50 ?_
          refine lv_istore_n (lv' := [(2, .int (v2_12 + (0 : Int32))), (3, .int u_4.1), (0, .ref a_o), (1, .int v1_12)]) hx hb dX7_read_51 rfl hl (by decide) rfl (fun ls hl => ?_)
          refine lv_aload_n hx hb dX7_read_52 rfl (lv_at hl 2 rfl) ?_
          refine lv_dup hx hb dX7_read_53 rfl ?_
          refine va_get (D := (dC, dI)) (ci := 6) (v := .int u_4.2.1) (C := RX7) (T := TX7) (N := 15) hx hb hts iX7 hown hK hP 0 rfl rfl 8 (by decide) (hts (.fieldLink RX7 102 "PascalRowsModel" "place" "I") (List.mem_of_getElem? (i := 1) rfl)) (fun _ h9 => h9) rfl dX7_read_54 ?_
          refine lv_iconst (v := (1 : Int32)) hx hb dX7_read_57 (by decide) ?_
          refine lv_iadd hx hb dX7_read_58 ?_
          refine va_put (D := (dC, dI)) (ci := 6) (v := .int (u_4.2.1 + (1 : Int32))) (ty := .int) (C := RX7) (T := TX7) (N := 15) hx hb hts iX7 tyX7 tyX7_ok nmX7 hown hK hP (hD.fst rfl) hS 0 rfl rfl 8 (by decide) (hts (.fieldLink RX7 102 "PascalRowsModel" "place" "I") (List.mem_of_getElem? (i := 1) rfl)) (fun _ h9 => h9) rfl (by decide +kernel) rfl rfl (Nat.le_of_ble_eq_true rfl) dX7_read_59 (fun H locs hP _ hS => ?_)
          have hP : va_P (dC, dI) vwCl [(a_o, .inr (6, [.ref a_o_g, .ref a_o_kept, .ref a_o_was, .int o_isKept, .ref a_o_triangle, .int o_takenBy, .ref a_o_text, .int o_fed_12, .int (u_4.2.1 + (1 : Int32)), .int u_4.2.2.1, .int u_4.2.2.2.1, .int u_4.2.2.2.2, .ref a_o_sort, .ref a_o_size, .ref a_o_items])), (a_o_g, .inl (cI, 64, .inl o_g_12)), (a_o_text, .inl (cI, 100, .inl o_text))] H := hP
          refine lv_goto (tgt := 12) hx hb dX7_read_62 (by decide) ?_
          exact ih (v2_12 + (0 : Int32)) o_g_12 (u_4.2.1 + (1 : Int32)) u_4.2.2.1 u_4.2.2.2.1 u_4.2.2.2.2 ls (lv_sub hl [2, 3, 0] rfl) H locs hP hS hr
        · have hr := ite_n hr c_5
          refine lv_aload_n hx hb dX7_read_38 rfl (lv_at hl 1 rfl) ?_
          obtain ⟨u_6, hu_6, hr⟩ := bd_e hr
          refine mu_V ⟨hx, hb, hml, hown, hts⟩ (k_X7_isDone l dC dI cI cJ a_o a_o_g a_o_kept a_o_was a_o_triangle a_o_text a_o_sort a_o_size a_o_items o_isKept o_takenBy o_fed_12 u_4.2.1 u_4.2.2.1 u_4.2.2.2.1 u_4.2.2.2.2 o_g_12 H.size u_6 hu_6) (cwV 0 hts gX7_read_X7_isDone rfl rfl rfl (by decide +kernel) ⟨Nat.le_of_ble_eq_true rfl, Nat.le_of_ble_eq_true rfl⟩) hE 0 rfl rfl rfl rfl hl.1 rfl (Nat.le_of_ble_eq_true rfl) dX7_read_39 ⟨Nat.zero_le _, Nat.zero_le _⟩ hP (hD.fst rfl) hS hA [0, 1] [2] [1, 2, 0] rfl rfl (by decide) (by decide) rfl (by decide) (W1 := [(a_o, .inr (6, [.ref a_o_g, .ref a_o_kept, .ref a_o_was, .int o_isKept, .ref a_o_triangle, .int o_takenBy, .ref a_o_text, .int o_fed_12, .int u_4.2.1, .int u_4.2.2.1, .int u_4.2.2.2.1, .int u_4.2.2.2.2, .ref a_o_sort, .ref a_o_size, .ref a_o_items])), (a_o_g, .inl (cI, 64, .inl u_6.2)), (a_o_text, .inl (cI, 100, .inl o_text))]) rfl (fun H locs hP hS => W.eq (g2 := F0 m 42 ls [.int u_6.1, .int v2_12]) rfl ?_)
          have hJ_7 : ∀ (y_8 : Int32) (ey_8 : y_8 = (if (¬ (u_6.1 = 0)) then (1 : Int32) else (0 : Int32))) (ls : Array Slot), lv_has ls 4 [(0, .ref a_o), (1, .int v1_12)] → W p l e rmX7_read s m args below meth c H locs 0 0 Q (F0 m 50 ls [.int y_8, .int v2_12]) := by
            intro y_8 ey_8 ls hl
            subst ey_8
            refine lv_iadd hx hb dX7_read_50 ?_
            refine lv_istore_n (lv' := [(2, .int (v2_12 + (if (¬ (u_6.1 = 0)) then (1 : Int32) else (0 : Int32)))), (0, .ref a_o), (1, .int v1_12)]) hx hb dX7_read_51 rfl hl (by decide) rfl (fun ls hl => ?_)
            refine lv_aload_n hx hb dX7_read_52 rfl (lv_at hl 1 rfl) ?_
            refine lv_dup hx hb dX7_read_53 rfl ?_
            refine va_get (D := (dC, dI)) (ci := 6) (v := .int u_4.2.1) (C := RX7) (T := TX7) (N := 15) hx hb hts iX7 hown hK hP 0 rfl rfl 8 (by decide) (hts (.fieldLink RX7 102 "PascalRowsModel" "place" "I") (List.mem_of_getElem? (i := 1) rfl)) (fun _ h9 => h9) rfl dX7_read_54 ?_
            refine lv_iconst (v := (1 : Int32)) hx hb dX7_read_57 (by decide) ?_
            refine lv_iadd hx hb dX7_read_58 ?_
            refine va_put (D := (dC, dI)) (ci := 6) (v := .int (u_4.2.1 + (1 : Int32))) (ty := .int) (C := RX7) (T := TX7) (N := 15) hx hb hts iX7 tyX7 tyX7_ok nmX7 hown hK hP (hD.fst rfl) hS 0 rfl rfl 8 (by decide) (hts (.fieldLink RX7 102 "PascalRowsModel" "place" "I") (List.mem_of_getElem? (i := 1) rfl)) (fun _ h9 => h9) rfl (by decide +kernel) rfl rfl (Nat.le_of_ble_eq_true rfl) dX7_read_59 (fun H locs hP _ hS => ?_)
            have hP : va_P (dC, dI) vwCl [(a_o, .inr (6, [.ref a_o_g, .ref a_o_kept, .ref a_o_was, .int o_isKept, .ref a_o_triangle, .int o_takenBy, .ref a_o_text, .int o_fed_12, .int (u_4.2.1 + (1 : Int32)), .int u_4.2.2.1, .int u_4.2.2.2.1, .int u_4.2.2.2.2, .ref a_o_sort, .ref a_o_size, .ref a_o_items])), (a_o_g, .inl (cI, 64, .inl u_6.2)), (a_o_text, .inl (cI, 100, .inl o_text))] H := hP
            refine lv_goto (tgt := 12) hx hb dX7_read_62 (by decide) ?_
            exact ih (v2_12 + (if (¬ (u_6.1 = 0)) then (1 : Int32) else (0 : Int32))) u_6.2 (u_4.2.1 + (1 : Int32)) u_4.2.2.1 u_4.2.2.2.1 u_4.2.2.2.2 ls (lv_sub hl [1, 2, 0] rfl) H locs hP hS hr
          refine lv_if_eq (tgt := 49) hx hb dX7_read_42 (by decide) (fun c_9 => ?_) (fun c_9 => ?_)
          · refine lv_iconst (v := (0 : Int32)) hx hb dX7_read_49 (by decide) ?_
            exact hJ_7 _ (if_neg (fun h => h c_9)).symm ls (lv_sub hl [1, 2] rfl)
          · refine lv_iconst (v := (1 : Int32)) hx hb dX7_read_45 (by decide) ?_
            refine lv_goto (tgt := 50) hx hb dX7_read_46 (by decide) ?_
            exact hJ_7 _ (if_pos c_9).symm ls (lv_sub hl [1, 2] rfl)
      have tF_10 : ¬ ((v1_12 = (-1 : Int32)) ∧ (¬ (o_fed_12 ≤ o_place_12))) → W p l e rmX7_read s m args below meth c H locs 0 0 Q (F0 m 65 ls []) := by
        intro hc_2
        have hr := ite_n hr hc_2
        exact hk v2_12 o_g_12 o_place_12 o_letter_12 o_first_12 o_second_12 ls (lv_sub hl [0, 1, 2] rfl) H locs hP hS hr
      refine lv_icmp_ne (tgt := 65) hx hb dX7_read_14 (by decide) (fun c_11 => ?_) (fun c_11 => ?_)
      · exact tF_10 (fun h => c_11 h.1)
      · refine lv_aload_n hx hb dX7_read_17 rfl (lv_at hl 0 rfl) ?_
        refine va_get (D := (dC, dI)) (ci := 6) (v := .int o_place_12) (C := RX7) (T := TX7) (N := 15) hx hb hts iX7 hown hK hP 0 rfl rfl 8 (by decide) (hts (.fieldLink RX7 102 "PascalRowsModel" "place" "I") (List.mem_of_getElem? (i := 1) rfl)) (fun _ h9 => h9) rfl dX7_read_18 ?_
        refine lv_aload_n hx hb dX7_read_21 rfl (lv_at hl 0 rfl) ?_
        refine va_get (D := (dC, dI)) (ci := 6) (v := .int o_fed_12) (C := RX7) (T := TX7) (N := 15) hx hb hts iX7 hown hK hP 0 rfl rfl 7 (by decide) (hts (.fieldLink RX7 99 "PascalRowsModel" "fed" "I") (List.mem_of_getElem? (i := 2) rfl)) (fun _ h9 => h9) rfl dX7_read_22 ?_
        refine lv_icmp_ge (tgt := 65) hx hb dX7_read_25 (by decide) (fun c_12 => ?_) (fun c_12 => ?_)
        · exact tF_10 (fun h => (fun h => h c_12) h.2)
        · exact tT_3 ⟨c_11, c_12⟩
  refine hL12 u_1.1 o_fed _ (fun x2_12 xc_o_g_12 xc_o_place_12 xc_o_letter_12 xc_o_first_12 xc_o_second_12 ls hl H locs hP hS hr => ?_) 5000 (0 : Int32) o_g (0 : Int32) u_1.2.2.1 u_1.2.2.2.1 u_1.2.2.2.2 ls (lv_sub hl [2, 1, 0] rfl) H locs hP hS hr
  refine lv_aload_n hx hb dX7_read_65 rfl (lv_at hl 0 rfl) ?_
  refine lv_iconst (v := (0 : Int32)) hx hb dX7_read_66 (by decide) ?_
  refine va_put (D := (dC, dI)) (ci := 6) (v := .int (0 : Int32)) (ty := .int) (C := RX7) (T := TX7) (N := 15) hx hb hts iX7 tyX7 tyX7_ok nmX7 hown hK hP (hD.fst rfl) hS 0 rfl rfl 7 (by decide) (hts (.fieldLink RX7 99 "PascalRowsModel" "fed" "I") (List.mem_of_getElem? (i := 2) rfl)) (fun _ h9 => h9) rfl (by decide +kernel) rfl rfl (Nat.le_of_ble_eq_true rfl) dX7_read_67 (fun H locs hP _ hS => ?_)
  have hP : va_P (dC, dI) vwCl [(a_o, .inr (6, [.ref a_o_g, .ref a_o_kept, .ref a_o_was, .int o_isKept, .ref a_o_triangle, .int o_takenBy, .ref a_o_text, .int (0 : Int32), .int xc_o_place_12, .int xc_o_letter_12, .int xc_o_first_12, .int xc_o_second_12, .ref a_o_sort, .ref a_o_size, .ref a_o_items])), (a_o_g, .inl (cI, 64, .inl xc_o_g_12)), (a_o_text, .inl (cI, 100, .inl o_text))] H := hP
  refine lv_iload_n hx hb dX7_read_70 rfl (lv_at hl 1 rfl) ?_
  refine lv_iconst (v := (-1 : Int32)) hx hb dX7_read_71 (by decide) ?_
  have hJ_13 : ∀ (y_14 : Int32) (ey_14 : y_14 = (if (¬ (u_1.1 = (-1 : Int32))) then ((-10 : Int32) - u_1.1) else x2_12)) (ls : Array Slot), lv_has ls 4 [] → W p l e rmX7_read s m args below meth c H locs 0 0 Q (F0 m 83 ls [.int y_14]) := by
    intro y_14 ey_14 ls hl
    have hr := qn_e hr ey_14
    obtain rfl := Option.some.inj hr
    exact hret H locs _ hP hS (fun Qc free hq hf => W.iret hx hb hrt hq hf dX7_read_83 hlocks)
  refine lv_icmp_ne (tgt := 79) hx hb dX7_read_72 (by decide) (fun c_15 => ?_) (fun c_15 => ?_)
  · refine lv_bipush (v := (-10 : Int32)) hx hb dX7_read_79 (by decide) ?_
    refine lv_iload_n hx hb dX7_read_81 rfl (lv_at hl 1 rfl) ?_
    refine lv_isub hx hb dX7_read_82 ?_
    exact hJ_13 _ (if_pos c_15).symm ls (lv_sub hl [] rfl)
  · refine lv_iload_n hx hb dX7_read_75 rfl (lv_at hl 2 rfl) ?_
    refine lv_goto (tgt := 83) hx hb dX7_read_76 (by decide) ?_
    exact hJ_13 _ (if_neg (fun h => h c_15)).symm ls (lv_sub hl [] rfl)
/-! X7_markedInWindow -/
def rmX7_markedInWindow : Room := { frames := 5, cells := 0, slots := 0, locals := 112 }
set_option maxHeartbeats 4000000 in
set_option maxRecDepth 100000 in
theorem k_X7_markedInWindow (l : Launch) (dC : Nat → ClassId) (dI : Nat → Nat → Nat) (cI cJ : ClassId) (a_o : Nat) (a_o_g : Nat) (a_o_kept : Nat) (a_o_was : Nat) (a_o_triangle : Nat) (a_o_text : Nat) (a_o_sort : Nat) (a_o_size : Nat) (a_o_items : Nat) (o_isKept : Int32) (o_takenBy : Int32) (o_fed : Int32) (o_place : Int32) (o_letter : Int32) (o_first : Int32) (o_second : Int32) (o_g : Nat → Int32) (o_triangle : Nat → Int32) (sz : Nat) (r : Int32 × (Nat → Int32) × Int32) (hr : f_X7_markedInWindow o_g o_triangle o_takenBy = some r) : Met l yX7_markedInWindow wsX7_markedInWindow rmX7_markedInWindow (va_Pc [.ref a_o] (pM (dC, dI) cI cJ [(a_o, .inr (6, [.ref a_o_g, .ref a_o_kept, .ref a_o_was, .int o_isKept, .ref a_o_triangle, .int o_takenBy, .ref a_o_text, .int o_fed, .int o_place, .int o_letter, .int o_first, .int o_second, .ref a_o_sort, .ref a_o_size, .ref a_o_items])), (a_o_g, .inl (cI, 64, .inl o_g)), (a_o_triangle, .inl (cI, 16384, .inl o_triangle))] sz)) (qM (some (.int r.1)) (dC, dI) [(a_o, .inr (6, [.ref a_o_g, .ref a_o_kept, .ref a_o_was, .int o_isKept, .ref a_o_triangle, .int r.2.2, .ref a_o_text, .int o_fed, .int o_place, .int o_letter, .int o_first, .int o_second, .ref a_o_sort, .ref a_o_size, .ref a_o_items])), (a_o_g, .inl (cI, 64, .inl o_g)), (a_o_triangle, .inl (cI, 16384, .inl r.2.1))] (va_A [(a_o, .inr (6, [.ref a_o_g, .ref a_o_kept, .ref a_o_was, .int o_isKept, .ref a_o_triangle, .int o_takenBy, .ref a_o_text, .int o_fed, .int o_place, .int o_letter, .int o_first, .int o_second, .ref a_o_sort, .ref a_o_size, .ref a_o_items])), (a_o_g, .inl (cI, 64, .inl o_g)), (a_o_triangle, .inl (cI, 16384, .inl o_triangle))] sz)) 0 0 (va_A [(a_o, .inr (6, [.ref a_o_g, .ref a_o_kept, .ref a_o_was, .int o_isKept, .ref a_o_triangle, .int o_takenBy, .ref a_o_text, .int o_fed, .int o_place, .int o_letter, .int o_first, .int o_second, .ref a_o_sort, .ref a_o_size, .ref a_o_items])), (a_o_g, .inl (cI, 64, .inl o_g)), (a_o_triangle, .inl (cI, 16384, .inl o_triangle))] sz) := by
  refine mu_of (cc := cX7_markedInWindow) (maxL := 4) (by decide) rfl (Nat.le_of_ble_eq_true rfl) ?_
  intro p e s m args below meth c Q ls A hx hb hml hown hts hE hP hD hA hrt hlocks hret hl
  have hK := hE.1
  have hS : va_S A s.heap s.heap [] := va_S.rf
  have hl : lv_has ls 4 [(0, .ref a_o)] := hl
  unfold f_X7_markedInWindow at hr
  obtain ⟨H, hHe⟩ : ∃ H, H = s.heap := ⟨_, rfl⟩
  obtain ⟨locs, hLe⟩ : ∃ locs : List Loc, locs = [] := ⟨_, rfl⟩
  suffices hgo : va_P (dC, dI) vwCl [(a_o, .inr (6, [.ref a_o_g, .ref a_o_kept, .ref a_o_was, .int o_isKept, .ref a_o_triangle, .int o_takenBy, .ref a_o_text, .int o_fed, .int o_place, .int o_letter, .int o_first, .int o_second, .ref a_o_sort, .ref a_o_size, .ref a_o_items])), (a_o_g, .inl (cI, 64, .inl o_g)), (a_o_triangle, .inl (cI, 16384, .inl o_triangle))] H → va_S A s.heap H locs → W p l e rmX7_markedInWindow s m args below meth c H locs 0 0 Q (F0 m 0 ls []) by
    subst hHe; subst hLe; exact hgo hP hS
  clear hP hS hHe hLe
  intro hP hS
  have iX7 : ∀ w ∈ wsX70, w ∈ wsX7_markedInWindow := memr_ (big := wsX7_markedInWindow) wsX70 [57, 58, 59, 60, 61, 62, 63, 64, 65, 66, 67, 68, 69, 70, 71] (by decide +kernel)
  refine lv_iconst (v := (0 : Int32)) hx hb dX7_markedInWindow_0 (by decide) ?_
  refine lv_istore_n (lv' := [(1, .int (0 : Int32)), (0, .ref a_o)]) hx hb dX7_markedInWindow_1 rfl hl (by decide) rfl (fun ls hl => ?_)
  refine lv_iconst (v := (0 : Int32)) hx hb dX7_markedInWindow_2 (by decide) ?_
  refine lv_istore_n (lv' := [(2, .int (0 : Int32)), (1, .int (0 : Int32)), (0, .ref a_o)]) hx hb dX7_markedInWindow_3 rfl hl (by decide) rfl (fun ls hl => ?_)
  have hL4 : ∀  (k_4 : Int32 → (Nat → Int32) → (Int32) → Option (Int32 × (Nat → Int32) × Int32)) (hk : ∀ (x1_4 : Int32) (xc_o_triangle_4 : Nat → Int32) (xc_o_takenBy_4 : Int32) (ls : Array Slot), lv_has ls 4 [(1, .int x1_4)] → ∀ (H : Heap) (locs : List Loc), va_P (dC, dI) vwCl [(a_o, .inr (6, [.ref a_o_g, .ref a_o_kept, .ref a_o_was, .int o_isKept, .ref a_o_triangle, .int xc_o_takenBy_4, .ref a_o_text, .int o_fed, .int o_place, .int o_letter, .int o_first, .int o_second, .ref a_o_sort, .ref a_o_size, .ref a_o_items])), (a_o_g, .inl (cI, 64, .inl o_g)), (a_o_triangle, .inl (cI, 16384, .inl xc_o_triangle_4))] H → va_S A s.heap H locs →  k_4 x1_4 xc_o_triangle_4 xc_o_takenBy_4 = some r → W p l e rmX7_markedInWindow s m args below meth c H locs 0 0 Q (F0 m 61 ls [])) (fuel : Nat) (v1_4 : Int32) (v2_4 : Int32) (o_triangle_4 : Nat → Int32) (o_takenBy_4 : Int32) (ls : Array Slot), lv_has ls 4 [(0, .ref a_o), (1, .int v1_4), (2, .int v2_4)] → ∀ (H : Heap) (locs : List Loc), va_P (dC, dI) vwCl [(a_o, .inr (6, [.ref a_o_g, .ref a_o_kept, .ref a_o_was, .int o_isKept, .ref a_o_triangle, .int o_takenBy_4, .ref a_o_text, .int o_fed, .int o_place, .int o_letter, .int o_first, .int o_second, .ref a_o_sort, .ref a_o_size, .ref a_o_items])), (a_o_g, .inl (cI, 64, .inl o_g)), (a_o_triangle, .inl (cI, 16384, .inl o_triangle_4))] H → va_S A s.heap H locs → f_X7_markedInWindow_L4 k_4 o_g fuel v1_4 v2_4 o_triangle_4 o_takenBy_4 = some r → W p l e rmX7_markedInWindow s m args below meth c H locs 0 0 Q (F0 m 4 ls []) := by
    intro k_4 hk fuel
    induction fuel with
    | zero =>
      intro v1_4 v2_4 o_triangle_4 o_takenBy_4 ls hl H locs hP hS hr
      rw [f_X7_markedInWindow_L4_z] at hr
      cases hr
    | succ fuel ih =>
      intro v1_4 v2_4 o_triangle_4 o_takenBy_4 ls hl H locs hP hS hr
      rw [f_X7_markedInWindow_L4_s] at hr
      refine lv_iload_n hx hb dX7_markedInWindow_4 rfl (lv_at hl 2 rfl) ?_
      refine lv_bipush (v := (8 : Int32)) hx hb dX7_markedInWindow_5 (by decide) ?_
      refine lv_icmp_ge (tgt := 61) hx hb dX7_markedInWindow_7 (by decide) (fun c_1 => ?_) (fun c_1 => ?_)
      · have hr := ite_p hr c_1
        exact hk v1_4 o_triangle_4 o_takenBy_4 ls (lv_sub hl [1] rfl) H locs hP hS hr
      · have hr := ite_n hr c_1
        refine lv_iconst (v := (0 : Int32)) hx hb dX7_markedInWindow_10 (by decide) ?_
        refine lv_istore_n (lv' := [(3, .int (0 : Int32)), (0, .ref a_o), (1, .int v1_4), (2, .int v2_4)]) hx hb dX7_markedInWindow_11 rfl hl (by decide) rfl (fun ls hl => ?_)
        have hL12 : ∀ (v2_12 : Int32) (k_12 : Int32 → (Nat → Int32) → (Int32) → Option (Int32 × (Nat → Int32) × Int32)) (hk : ∀ (x1_12 : Int32) (xc_o_triangle_12 : Nat → Int32) (xc_o_takenBy_12 : Int32) (ls : Array Slot), lv_has ls 4 [(0, .ref a_o), (1, .int x1_12), (2, .int v2_12)] → ∀ (H : Heap) (locs : List Loc), va_P (dC, dI) vwCl [(a_o, .inr (6, [.ref a_o_g, .ref a_o_kept, .ref a_o_was, .int o_isKept, .ref a_o_triangle, .int xc_o_takenBy_12, .ref a_o_text, .int o_fed, .int o_place, .int o_letter, .int o_first, .int o_second, .ref a_o_sort, .ref a_o_size, .ref a_o_items])), (a_o_g, .inl (cI, 64, .inl o_g)), (a_o_triangle, .inl (cI, 16384, .inl xc_o_triangle_12))] H → va_S A s.heap H locs →  k_12 x1_12 xc_o_triangle_12 xc_o_takenBy_12 = some r → W p l e rmX7_markedInWindow s m args below meth c H locs 0 0 Q (F0 m 55 ls [])) (fuel : Nat) (v1_12 : Int32) (v3_12 : Int32) (o_triangle_12 : Nat → Int32) (o_takenBy_12 : Int32) (ls : Array Slot), lv_has ls 4 [(0, .ref a_o), (1, .int v1_12), (2, .int v2_12), (3, .int v3_12)] → ∀ (H : Heap) (locs : List Loc), va_P (dC, dI) vwCl [(a_o, .inr (6, [.ref a_o_g, .ref a_o_kept, .ref a_o_was, .int o_isKept, .ref a_o_triangle, .int o_takenBy_12, .ref a_o_text, .int o_fed, .int o_place, .int o_letter, .int o_first, .int o_second, .ref a_o_sort, .ref a_o_size, .ref a_o_items])), (a_o_g, .inl (cI, 64, .inl o_g)), (a_o_triangle, .inl (cI, 16384, .inl o_triangle_12))] H → va_S A s.heap H locs → f_X7_markedInWindow_L12 k_12 v2_12 o_g fuel v1_12 v3_12 o_triangle_12 o_takenBy_12 = some r → W p l e rmX7_markedInWindow s m args below meth c H locs 0 0 Q (F0 m 12 ls []) := by
          intro v2_12 k_12 hk fuel
          induction fuel with
          | zero =>
            intro v1_12 v3_12 o_triangle_12 o_takenBy_12 ls hl H locs hP hS hr
            rw [f_X7_markedInWindow_L12_z] at hr
            cases hr
          | succ fuel ih =>
            intro v1_12 v3_12 o_triangle_12 o_takenBy_12 ls hl H locs hP hS hr
            rw [f_X7_markedInWindow_L12_s] at hr
            refine lv_iload_n hx hb dX7_markedInWindow_12 rfl (lv_at hl 3 rfl) ?_
            refine lv_bipush (v := (8 : Int32)) hx hb dX7_markedInWindow_13 (by decide) ?_
            refine lv_icmp_ge (tgt := 55) hx hb dX7_markedInWindow_15 (by decide) (fun c_2 => ?_) (fun c_2 => ?_)
            · have hr := ite_p hr c_2
              exact hk v1_12 o_triangle_12 o_takenBy_12 ls (lv_sub hl [0, 1, 2] rfl) H locs hP hS hr
            · have hr := ite_n hr c_2
              refine lv_iload_n hx hb dX7_markedInWindow_18 rfl (lv_at hl 1 rfl) ?_
              refine lv_aload_n hx hb dX7_markedInWindow_19 rfl (lv_at hl 0 rfl) ?_
              refine lv_aload_n hx hb dX7_markedInWindow_20 rfl (lv_at hl 0 rfl) ?_
              refine va_get (D := (dC, dI)) (ci := 6) (v := .ref a_o_g) (C := RX7) (T := TX7) (N := 15) hx hb hts iX7 hown hK hP 0 rfl rfl 0 (by decide) (hts (.fieldLink RX7 11 "PascalRowsModel" "g" "[I") (List.mem_of_getElem? (i := 1) rfl)) (fun _ h9 => h9) rfl dX7_markedInWindow_21 ?_
              refine lv_iconst (v := (2 : Int32)) hx hb dX7_markedInWindow_24 (by decide) ?_
              obtain ⟨g_3, eg_3, hg_3, hr⟩ := rd_e hr
              refine va_iald hx hb hK hP 1 0 rfl rfl hg_3 dX7_markedInWindow_25 ?_
              refine tp_ eg_3 ?_
              refine lv_iload_n hx hb dX7_markedInWindow_26 rfl (lv_at hl 2 rfl) ?_
              refine lv_iadd hx hb dX7_markedInWindow_27 ?_
              refine lv_aload_n hx hb dX7_markedInWindow_28 rfl (lv_at hl 0 rfl) ?_
              refine va_get (D := (dC, dI)) (ci := 6) (v := .ref a_o_g) (C := RX7) (T := TX7) (N := 15) hx hb hts iX7 hown hK hP 0 rfl rfl 0 (by decide) (hts (.fieldLink RX7 11 "PascalRowsModel" "g" "[I") (List.mem_of_getElem? (i := 1) rfl)) (fun _ h9 => h9) rfl dX7_markedInWindow_29 ?_
              refine lv_iconst (v := (3 : Int32)) hx hb dX7_markedInWindow_32 (by decide) ?_
              obtain ⟨g_4, eg_4, hg_4, hr⟩ := rd_e hr
              refine va_iald hx hb hK hP 1 0 rfl rfl hg_4 dX7_markedInWindow_33 ?_
              refine tp_ eg_4 ?_
              refine lv_iload_n hx hb dX7_markedInWindow_34 rfl (lv_at hl 3 rfl) ?_
              refine lv_iadd hx hb dX7_markedInWindow_35 ?_
              obtain ⟨u_5, hu_5, hr⟩ := bd_e hr
              refine mu_V ⟨hx, hb, hml, hown, hts⟩ (k_X7_isMarked l dC dI cI cJ a_o a_o_g a_o_kept a_o_was a_o_triangle a_o_text a_o_sort a_o_size a_o_items (g_3 + v2_12) (g_4 + v3_12) o_isKept o_takenBy_12 o_fed o_place o_letter o_first o_second o_g o_triangle_12 H.size u_5 hu_5) (cwV 2 hts gX7_markedInWindow_X7_isMarked rfl rfl rfl (by decide +kernel) ⟨Nat.le_of_ble_eq_true rfl, Nat.le_of_ble_eq_true rfl⟩) hE 0 rfl rfl rfl rfl hl.1 rfl (Nat.le_of_ble_eq_true rfl) dX7_markedInWindow_36 ⟨Nat.zero_le _, Nat.zero_le _⟩ hP (hD.fst rfl) hS hA [0, 1, 2] [] [0, 1, 2] rfl rfl (by decide) (by decide) rfl (by decide) (W1 := [(a_o, .inr (6, [.ref a_o_g, .ref a_o_kept, .ref a_o_was, .int o_isKept, .ref a_o_triangle, .int u_5.2.2, .ref a_o_text, .int o_fed, .int o_place, .int o_letter, .int o_first, .int o_second, .ref a_o_sort, .ref a_o_size, .ref a_o_items])), (a_o_g, .inl (cI, 64, .inl o_g)), (a_o_triangle, .inl (cI, 16384, .inl u_5.2.1))]) rfl (fun H locs hP hS => W.eq (g2 := F0 m 39 ls [.int u_5.1, .int v1_12]) rfl ?_)
              have hJ_6 : ∀ (y_7 : Int32) (ey_7 : y_7 = (if (¬ (u_5.1 = 0)) then (1 : Int32) else (0 : Int32))) (ls : Array Slot), lv_has ls 4 [(0, .ref a_o), (2, .int v2_12), (3, .int v3_12)] → W p l e rmX7_markedInWindow s m args below meth c H locs 0 0 Q (F0 m 47 ls [.int y_7, .int v1_12]) := by
                intro y_7 ey_7 ls hl
                subst ey_7
                refine lv_iadd hx hb dX7_markedInWindow_47 ?_
                refine lv_istore_n (lv' := [(1, .int (v1_12 + (if (¬ (u_5.1 = 0)) then (1 : Int32) else (0 : Int32)))), (0, .ref a_o), (2, .int v2_12), (3, .int v3_12)]) hx hb dX7_markedInWindow_48 rfl hl (by decide) rfl (fun ls hl => ?_)
                refine lv_iinc (v := (v3_12 + (1 : Int32))) (lv' := [(3, .int (v3_12 + (1 : Int32))), (1, .int (v1_12 + (if (¬ (u_5.1 = 0)) then (1 : Int32) else (0 : Int32)))), (0, .ref a_o), (2, .int v2_12)]) hx hb dX7_markedInWindow_49 hl (k := 3) rfl (congrArg (fun z => v3_12 + z) (by decide)) (by decide) rfl (fun ls hl => ?_)
                refine lv_goto (tgt := 12) hx hb dX7_markedInWindow_52 (by decide) ?_
                exact ih (v1_12 + (if (¬ (u_5.1 = 0)) then (1 : Int32) else (0 : Int32))) (v3_12 + (1 : Int32)) u_5.2.1 u_5.2.2 ls (lv_sub hl [2, 1, 3, 0] rfl) H locs hP hS hr
              refine lv_if_eq (tgt := 46) hx hb dX7_markedInWindow_39 (by decide) (fun c_8 => ?_) (fun c_8 => ?_)
              · refine lv_iconst (v := (0 : Int32)) hx hb dX7_markedInWindow_46 (by decide) ?_
                exact hJ_6 _ (if_neg (fun h => h c_8)).symm ls (lv_sub hl [0, 2, 3] rfl)
              · refine lv_iconst (v := (1 : Int32)) hx hb dX7_markedInWindow_42 (by decide) ?_
                refine lv_goto (tgt := 47) hx hb dX7_markedInWindow_43 (by decide) ?_
                exact hJ_6 _ (if_pos c_8).symm ls (lv_sub hl [0, 2, 3] rfl)
        refine hL12 v2_4 _ (fun x1_12 xc_o_triangle_12 xc_o_takenBy_12 ls hl H locs hP hS hr => ?_) 5000 v1_4 (0 : Int32) o_triangle_4 o_takenBy_4 ls (lv_sub hl [1, 2, 3, 0] rfl) H locs hP hS hr
        refine lv_iinc (v := (v2_4 + (1 : Int32))) (lv' := [(2, .int (v2_4 + (1 : Int32))), (0, .ref a_o), (1, .int x1_12)]) hx hb dX7_markedInWindow_55 hl (k := 2) rfl (congrArg (fun z => v2_4 + z) (by decide)) (by decide) rfl (fun ls hl => ?_)
        refine lv_goto (tgt := 4) hx hb dX7_markedInWindow_58 (by decide) ?_
        exact ih x1_12 (v2_4 + (1 : Int32)) xc_o_triangle_12 xc_o_takenBy_12 ls (lv_sub hl [1, 2, 0] rfl) H locs hP hS hr
  refine hL4  _ (fun x1_4 xc_o_triangle_4 xc_o_takenBy_4 ls hl H locs hP hS hr => ?_) 5000 (0 : Int32) (0 : Int32) o_triangle o_takenBy ls (lv_sub hl [2, 1, 0] rfl) H locs hP hS hr
  refine lv_iload_n hx hb dX7_markedInWindow_61 rfl (lv_at hl 0 rfl) ?_
  obtain rfl := Option.some.inj hr
  exact hret H locs _ hP hS (fun Qc free hq hf => W.iret hx hb hrt hq hf dX7_markedInWindow_62 hlocks)
/-! X7_told -/
def rmX7_told : Room := { frames := 6, cells := 0, slots := 0, locals := 135 }
set_option maxHeartbeats 4000000 in
set_option maxRecDepth 100000 in
theorem k_X7_told (l : Launch) (dC : Nat → ClassId) (dI : Nat → Nat → Nat) (cI cJ : ClassId) (a_o : Nat) (a_o_g : Nat) (a_o_kept : Nat) (a_o_was : Nat) (a_o_triangle : Nat) (a_o_text : Nat) (a_o_sort : Nat) (a_o_size : Nat) (a_o_items : Nat) (p0 : Int32) (o_isKept : Int32) (o_takenBy : Int32) (o_fed : Int32) (o_place : Int32) (o_letter : Int32) (o_first : Int32) (o_second : Int32) (o_g : Nat → Int32) (o_triangle : Nat → Int32) (sz : Nat) (r : Int32 × (Nat → Int32) × Int32) (hr : f_X7_told p0 o_g o_triangle o_takenBy = some r) : Met l yX7_told wsX7_told rmX7_told (va_Pc [.ref a_o, .int p0] (pM (dC, dI) cI cJ [(a_o, .inr (6, [.ref a_o_g, .ref a_o_kept, .ref a_o_was, .int o_isKept, .ref a_o_triangle, .int o_takenBy, .ref a_o_text, .int o_fed, .int o_place, .int o_letter, .int o_first, .int o_second, .ref a_o_sort, .ref a_o_size, .ref a_o_items])), (a_o_g, .inl (cI, 64, .inl o_g)), (a_o_triangle, .inl (cI, 16384, .inl o_triangle))] sz)) (qM (some (.int r.1)) (dC, dI) [(a_o, .inr (6, [.ref a_o_g, .ref a_o_kept, .ref a_o_was, .int o_isKept, .ref a_o_triangle, .int r.2.2, .ref a_o_text, .int o_fed, .int o_place, .int o_letter, .int o_first, .int o_second, .ref a_o_sort, .ref a_o_size, .ref a_o_items])), (a_o_g, .inl (cI, 64, .inl o_g)), (a_o_triangle, .inl (cI, 16384, .inl r.2.1))] (va_A [(a_o, .inr (6, [.ref a_o_g, .ref a_o_kept, .ref a_o_was, .int o_isKept, .ref a_o_triangle, .int o_takenBy, .ref a_o_text, .int o_fed, .int o_place, .int o_letter, .int o_first, .int o_second, .ref a_o_sort, .ref a_o_size, .ref a_o_items])), (a_o_g, .inl (cI, 64, .inl o_g)), (a_o_triangle, .inl (cI, 16384, .inl o_triangle))] sz)) 0 0 (va_A [(a_o, .inr (6, [.ref a_o_g, .ref a_o_kept, .ref a_o_was, .int o_isKept, .ref a_o_triangle, .int o_takenBy, .ref a_o_text, .int o_fed, .int o_place, .int o_letter, .int o_first, .int o_second, .ref a_o_sort, .ref a_o_size, .ref a_o_items])), (a_o_g, .inl (cI, 64, .inl o_g)), (a_o_triangle, .inl (cI, 16384, .inl o_triangle))] sz) := by
  refine mu_of (cc := cX7_told) (maxL := 2) (by decide) rfl (Nat.le_of_ble_eq_true rfl) ?_
  intro p e s m args below meth c Q ls A hx hb hml hown hts hE hP hD hA hrt hlocks hret hl
  have hK := hE.1
  have hS : va_S A s.heap s.heap [] := va_S.rf
  have hl : lv_has ls 2 [(0, .ref a_o), (1, .int p0)] := hl
  unfold f_X7_told at hr
  obtain ⟨H, hHe⟩ : ∃ H, H = s.heap := ⟨_, rfl⟩
  obtain ⟨locs, hLe⟩ : ∃ locs : List Loc, locs = [] := ⟨_, rfl⟩
  suffices hgo : va_P (dC, dI) vwCl [(a_o, .inr (6, [.ref a_o_g, .ref a_o_kept, .ref a_o_was, .int o_isKept, .ref a_o_triangle, .int o_takenBy, .ref a_o_text, .int o_fed, .int o_place, .int o_letter, .int o_first, .int o_second, .ref a_o_sort, .ref a_o_size, .ref a_o_items])), (a_o_g, .inl (cI, 64, .inl o_g)), (a_o_triangle, .inl (cI, 16384, .inl o_triangle))] H → va_S A s.heap H locs → W p l e rmX7_told s m args below meth c H locs 0 0 Q (F0 m 0 ls []) by
    subst hHe; subst hLe; exact hgo hP hS
  clear hP hS hHe hLe
  intro hP hS
  have iX7 : ∀ w ∈ wsX70, w ∈ wsX7_told := memr_ (big := wsX7_told) wsX70 [61, 62, 63, 64, 65, 66, 67, 68, 69, 70, 71, 72, 73, 74, 75] (by decide +kernel)
  refine lv_iload_n hx hb dX7_told_0 rfl (lv_at hl 1 rfl) ?_
  by_cases c_1 : p0 = (0 : Int32)
  · have hr := ite_p hr c_1
    refine W.eq (g2 := F0 m 1 ls (.int (0 : Int32) :: [])) (congrArg (fun z => F0 m 1 ls (.int z :: [])) c_1) ?_
    refine lv_tableIn (tgt := 44) hx hb dX7_told_1 (by decide) (by decide) (by first | rfl | decide) (by decide) ?_
    refine lv_aload_n hx hb dX7_told_44 rfl (lv_at hl 0 rfl) ?_
    refine va_get (D := (dC, dI)) (ci := 6) (v := .ref a_o_g) (C := RX7) (T := TX7) (N := 15) hx hb hts iX7 hown hK hP 0 rfl rfl 0 (by decide) (hts (.fieldLink RX7 11 "PascalRowsModel" "g" "[I") (List.mem_of_getElem? (i := 1) rfl)) (fun _ h9 => h9) rfl dX7_told_45 ?_
    refine lv_iconst (v := (0 : Int32)) hx hb dX7_told_48 (by decide) ?_
    obtain ⟨g_2, eg_2, hg_2, hr⟩ := rd_e hr
    refine va_iald hx hb hK hP 1 0 rfl rfl hg_2 dX7_told_49 ?_
    refine tp_ eg_2 ?_
    obtain rfl := Option.some.inj hr
    exact hret H locs _ hP hS (fun Qc free hq hf => W.iret hx hb hrt hq hf dX7_told_50 hlocks)
  have hr := ite_n hr c_1
  by_cases c_3 : p0 = (1 : Int32)
  · have hr := ite_p hr c_3
    refine W.eq (g2 := F0 m 1 ls (.int (1 : Int32) :: [])) (congrArg (fun z => F0 m 1 ls (.int z :: [])) c_3) ?_
    refine lv_tableIn (tgt := 51) hx hb dX7_told_1 (by decide) (by decide) (by first | rfl | decide) (by decide) ?_
    refine lv_aload_n hx hb dX7_told_51 rfl (lv_at hl 0 rfl) ?_
    refine va_get (D := (dC, dI)) (ci := 6) (v := .ref a_o_g) (C := RX7) (T := TX7) (N := 15) hx hb hts iX7 hown hK hP 0 rfl rfl 0 (by decide) (hts (.fieldLink RX7 11 "PascalRowsModel" "g" "[I") (List.mem_of_getElem? (i := 1) rfl)) (fun _ h9 => h9) rfl dX7_told_52 ?_
    refine lv_iconst (v := (1 : Int32)) hx hb dX7_told_55 (by decide) ?_
    obtain ⟨g_4, eg_4, hg_4, hr⟩ := rd_e hr
    refine va_iald hx hb hK hP 1 0 rfl rfl hg_4 dX7_told_56 ?_
    refine tp_ eg_4 ?_
    obtain rfl := Option.some.inj hr
    exact hret H locs _ hP hS (fun Qc free hq hf => W.iret hx hb hrt hq hf dX7_told_57 hlocks)
  have hr := ite_n hr c_3
  by_cases c_5 : p0 = (2 : Int32)
  · have hr := ite_p hr c_5
    refine W.eq (g2 := F0 m 1 ls (.int (2 : Int32) :: [])) (congrArg (fun z => F0 m 1 ls (.int z :: [])) c_5) ?_
    refine lv_tableIn (tgt := 58) hx hb dX7_told_1 (by decide) (by decide) (by first | rfl | decide) (by decide) ?_
    refine lv_aload_n hx hb dX7_told_58 rfl (lv_at hl 0 rfl) ?_
    obtain ⟨u_6, hu_6, hr⟩ := bd_e hr
    refine ro_V ⟨hx, hb, hml, hown, hts⟩ (k_X7_modulus l dC dI cI cJ a_o a_o_g a_o_kept a_o_was a_o_triangle a_o_text a_o_sort a_o_size a_o_items o_isKept o_takenBy o_fed o_place o_letter o_first o_second o_g u_6 hu_6) (cwV 0 hts gX7_told_X7_modulus rfl rfl rfl (by decide +kernel) ⟨Nat.le_of_ble_eq_true rfl, Nat.le_of_ble_eq_true rfl⟩) hE hP 0 rfl rfl rfl (hP.sub [0, 1] rfl) rfl hl.1 rfl (Nat.le_of_ble_eq_true rfl) dX7_told_59 ⟨Nat.zero_le _, Nat.zero_le _⟩ ?_
    obtain rfl := Option.some.inj hr
    exact hret H locs _ hP hS (fun Qc free hq hf => W.iret hx hb hrt hq hf dX7_told_62 hlocks)
  have hr := ite_n hr c_5
  by_cases c_7 : p0 = (3 : Int32)
  · have hr := ite_p hr c_7
    refine W.eq (g2 := F0 m 1 ls (.int (3 : Int32) :: [])) (congrArg (fun z => F0 m 1 ls (.int z :: [])) c_7) ?_
    refine lv_tableIn (tgt := 63) hx hb dX7_told_1 (by decide) (by decide) (by first | rfl | decide) (by decide) ?_
    refine lv_aload_n hx hb dX7_told_63 rfl (lv_at hl 0 rfl) ?_
    refine va_get (D := (dC, dI)) (ci := 6) (v := .ref a_o_g) (C := RX7) (T := TX7) (N := 15) hx hb hts iX7 hown hK hP 0 rfl rfl 0 (by decide) (hts (.fieldLink RX7 11 "PascalRowsModel" "g" "[I") (List.mem_of_getElem? (i := 1) rfl)) (fun _ h9 => h9) rfl dX7_told_64 ?_
    refine lv_iconst (v := (4 : Int32)) hx hb dX7_told_67 (by decide) ?_
    obtain ⟨g_8, eg_8, hg_8, hr⟩ := rd_e hr
    refine va_iald hx hb hK hP 1 0 rfl rfl hg_8 dX7_told_68 ?_
    refine tp_ eg_8 ?_
    obtain rfl := Option.some.inj hr
    exact hret H locs _ hP hS (fun Qc free hq hf => W.iret hx hb hrt hq hf dX7_told_69 hlocks)
  have hr := ite_n hr c_7
  by_cases c_9 : p0 = (4 : Int32)
  · have hr := ite_p hr c_9
    refine W.eq (g2 := F0 m 1 ls (.int (4 : Int32) :: [])) (congrArg (fun z => F0 m 1 ls (.int z :: [])) c_9) ?_
    refine lv_tableIn (tgt := 70) hx hb dX7_told_1 (by decide) (by decide) (by first | rfl | decide) (by decide) ?_
    refine lv_aload_n hx hb dX7_told_70 rfl (lv_at hl 0 rfl) ?_
    refine va_get (D := (dC, dI)) (ci := 6) (v := .ref a_o_g) (C := RX7) (T := TX7) (N := 15) hx hb hts iX7 hown hK hP 0 rfl rfl 0 (by decide) (hts (.fieldLink RX7 11 "PascalRowsModel" "g" "[I") (List.mem_of_getElem? (i := 1) rfl)) (fun _ h9 => h9) rfl dX7_told_71 ?_
    refine lv_iconst (v := (2 : Int32)) hx hb dX7_told_74 (by decide) ?_
    obtain ⟨g_10, eg_10, hg_10, hr⟩ := rd_e hr
    refine va_iald hx hb hK hP 1 0 rfl rfl hg_10 dX7_told_75 ?_
    refine tp_ eg_10 ?_
    obtain rfl := Option.some.inj hr
    exact hret H locs _ hP hS (fun Qc free hq hf => W.iret hx hb hrt hq hf dX7_told_76 hlocks)
  have hr := ite_n hr c_9
  by_cases c_11 : p0 = (5 : Int32)
  · have hr := ite_p hr c_11
    refine W.eq (g2 := F0 m 1 ls (.int (5 : Int32) :: [])) (congrArg (fun z => F0 m 1 ls (.int z :: [])) c_11) ?_
    refine lv_tableIn (tgt := 77) hx hb dX7_told_1 (by decide) (by decide) (by first | rfl | decide) (by decide) ?_
    refine lv_aload_n hx hb dX7_told_77 rfl (lv_at hl 0 rfl) ?_
    refine va_get (D := (dC, dI)) (ci := 6) (v := .ref a_o_g) (C := RX7) (T := TX7) (N := 15) hx hb hts iX7 hown hK hP 0 rfl rfl 0 (by decide) (hts (.fieldLink RX7 11 "PascalRowsModel" "g" "[I") (List.mem_of_getElem? (i := 1) rfl)) (fun _ h9 => h9) rfl dX7_told_78 ?_
    refine lv_iconst (v := (3 : Int32)) hx hb dX7_told_81 (by decide) ?_
    obtain ⟨g_12, eg_12, hg_12, hr⟩ := rd_e hr
    refine va_iald hx hb hK hP 1 0 rfl rfl hg_12 dX7_told_82 ?_
    refine tp_ eg_12 ?_
    obtain rfl := Option.some.inj hr
    exact hret H locs _ hP hS (fun Qc free hq hf => W.iret hx hb hrt hq hf dX7_told_83 hlocks)
  have hr := ite_n hr c_11
  by_cases c_13 : p0 = (6 : Int32)
  · have hr := ite_p hr c_13
    refine W.eq (g2 := F0 m 1 ls (.int (6 : Int32) :: [])) (congrArg (fun z => F0 m 1 ls (.int z :: [])) c_13) ?_
    refine lv_tableIn (tgt := 84) hx hb dX7_told_1 (by decide) (by decide) (by first | rfl | decide) (by decide) ?_
    refine lv_aload_n hx hb dX7_told_84 rfl (lv_at hl 0 rfl) ?_
    obtain ⟨u_14, hu_14, hr⟩ := bd_e hr
    refine mu_V ⟨hx, hb, hml, hown, hts⟩ (k_X7_markedInWindow l dC dI cI cJ a_o a_o_g a_o_kept a_o_was a_o_triangle a_o_text a_o_sort a_o_size a_o_items o_isKept o_takenBy o_fed o_place o_letter o_first o_second o_g o_triangle H.size u_14 hu_14) (cwV 0 hts gX7_told_X7_markedInWindow rfl rfl rfl (by decide +kernel) ⟨Nat.le_of_ble_eq_true rfl, Nat.le_of_ble_eq_true rfl⟩) hE 0 rfl rfl rfl rfl hl.1 rfl (Nat.le_of_ble_eq_true rfl) dX7_told_85 ⟨Nat.zero_le _, Nat.zero_le _⟩ hP (hD.fst rfl) hS hA [0, 1, 2] [] [0, 1, 2] rfl rfl (by decide) (by decide) rfl (by decide) (W1 := [(a_o, .inr (6, [.ref a_o_g, .ref a_o_kept, .ref a_o_was, .int o_isKept, .ref a_o_triangle, .int u_14.2.2, .ref a_o_text, .int o_fed, .int o_place, .int o_letter, .int o_first, .int o_second, .ref a_o_sort, .ref a_o_size, .ref a_o_items])), (a_o_g, .inl (cI, 64, .inl o_g)), (a_o_triangle, .inl (cI, 16384, .inl u_14.2.1))]) rfl (fun H locs hP hS => W.eq (g2 := F0 m 88 ls [.int u_14.1]) rfl ?_)
    obtain rfl := Option.some.inj hr
    exact hret H locs _ hP hS (fun Qc free hq hf => W.iret hx hb hrt hq hf dX7_told_88 hlocks)
  have hr := ite_n hr c_13
  refine lv_tableOut (tgt := 89) hx hb dX7_told_1 (tbl_out (fun k h1 h2 => ?_)) (by decide) ?_
  · rcases (show k = 0 ∨ k = 1 ∨ k = 2 ∨ k = 3 ∨ k = 4 ∨ k = 5 ∨ k = 6 by omega) with rfl | rfl | rfl | rfl | rfl | rfl | rfl
    · exact i32_ne c_1 rfl
    · exact i32_ne c_3 rfl
    · exact i32_ne c_5 rfl
    · exact i32_ne c_7 rfl
    · exact i32_ne c_9 rfl
    · exact i32_ne c_11 rfl
    · exact i32_ne c_13 rfl
  refine lv_iconst (v := (-1 : Int32)) hx hb dX7_told_89 (by decide) ?_
  obtain rfl := Option.some.inj hr
  exact hret H locs _ hP hS (fun Qc free hq hf => W.iret hx hb hrt hq hf dX7_told_90 hlocks)
/-! X7_markOf -/
def rmX7_markOf : Room := { frames := 1, cells := 0, slots := 0, locals := 25 }
set_option maxHeartbeats 4000000 in
set_option maxRecDepth 100000 in
theorem k_X7_markOf (l : Launch) (dC : Nat → ClassId) (dI : Nat → Nat → Nat) (cI cJ : ClassId) (a_o : Nat) (a_o_g : Nat) (a_o_kept : Nat) (a_o_was : Nat) (a_o_triangle : Nat) (a_o_text : Nat) (a_o_sort : Nat) (a_o_size : Nat) (a_o_items : Nat) (p0 : Int32) (p1 : Int32) (o_isKept : Int32) (o_takenBy : Int32) (o_fed : Int32) (o_place : Int32) (o_letter : Int32) (o_first : Int32) (o_second : Int32) (o_g : Nat → Int32) (r : Int32) (hr : f_X7_markOf p0 p1 o_g = some r) : Met l yX7_markOf wsX7_markOf rmX7_markOf (va_Pc [.ref a_o, .int p0, .int p1] (pE (dC, dI) cI cJ [(a_o, .inr (6, [.ref a_o_g, .ref a_o_kept, .ref a_o_was, .int o_isKept, .ref a_o_triangle, .int o_takenBy, .ref a_o_text, .int o_fed, .int o_place, .int o_letter, .int o_first, .int o_second, .ref a_o_sort, .ref a_o_size, .ref a_o_items])), (a_o_g, .inl (cI, 64, .inl o_g))])) (rq (.int r)) 0 0 nofree := by
  refine ro_of_i (cc := cX7_markOf) (maxL := 3) (by decide) rfl (Nat.le_of_ble_eq_true rfl) ?_
  intro p e s m args below meth c Q ls hx hb hml hown hts hE hP hret hl
  have hK := hE.1
  have hl : lv_has ls 3 [(0, .ref a_o), (1, .int p0), (2, .int p1)] := hl
  unfold f_X7_markOf at hr
  have iX7 : ∀ w ∈ wsX70, w ∈ wsX7_markOf := memr_ (big := wsX7_markOf) wsX70 [6, 7, 8, 9, 10, 11, 12, 13, 14, 15, 16, 17, 18, 19, 20] (by decide +kernel)
  refine lv_iload_n hx hb dX7_markOf_0 rfl (lv_at hl 1 rfl) ?_
  refine lv_i2l (v := (Int32.toInt64 p0)) hx hb dX7_markOf_1 rfl ?_
  refine lv_lconst (v := (0 : Int64)) hx hb dX7_markOf_2 (by decide) ?_
  refine lv_aload_n hx hb dX7_markOf_3 rfl (lv_at hl 0 rfl) ?_
  refine va_get (D := (dC, dI)) (ci := 6) (v := .ref a_o_g) (C := RX7) (T := TX7) (N := 15) hx hb hts iX7 hown hK hP 0 rfl rfl 0 (by decide) (hts (.fieldLink RX7 11 "PascalRowsModel" "g" "[I") (List.mem_of_getElem? (i := 1) rfl)) (fun _ h9 => h9) rfl dX7_markOf_4 ?_
  refine lv_iconst (v := (4 : Int32)) hx hb dX7_markOf_7 (by decide) ?_
  obtain ⟨g_1, eg_1, hg_1, hr⟩ := rd_e hr
  refine va_iald hx hb hK hP 1 0 rfl rfl hg_1 dX7_markOf_8 ?_
  refine tp_ eg_1 ?_
  refine lv_iconst (v := (1 : Int32)) hx hb dX7_markOf_9 (by decide) ?_
  refine lv_isub hx hb dX7_markOf_10 ?_
  refine lv_i2l (v := (Int32.toInt64 (g_1 - (1 : Int32)))) hx hb dX7_markOf_11 rfl ?_
  refine ro_S ⟨hx, hb, hml, hown, hts⟩ (k_X7_isIn l dC dI cI cJ (Int32.toInt64 p0) (0 : Int64) (Int32.toInt64 (g_1 - (1 : Int32)))) (va_cwS 3 hts gX7_markOf_X7_isIn rfl rfl rfl (by decide +kernel) ⟨Nat.le_of_ble_eq_true rfl, Nat.le_of_ble_eq_true rfl⟩) hE (hP.sub [] rfl) rfl hl.1 rfl (Nat.le_of_ble_eq_true rfl) dX7_markOf_12 ⟨Nat.zero_le _, Nat.zero_le _⟩ ?_
  have tT_3 : ((¬ ((f_X7_isIn (Int32.toInt64 p0) (0 : Int64) (Int32.toInt64 (g_1 - (1 : Int32)))) = 0)) ∧ (¬ ((f_X7_isIn (Int32.toInt64 p1) (0 : Int64) (1 : Int64)) = 0))) → W p l e rmX7_markOf s m args below meth c s.heap [] 0 0 Q (F0 m 28 ls []) := by
    intro hc_2
    have hr := ite_p hr hc_2
    refine lv_aload_n hx hb dX7_markOf_28 rfl (lv_at hl 0 rfl) ?_
    refine va_get (D := (dC, dI)) (ci := 6) (v := .ref a_o_g) (C := RX7) (T := TX7) (N := 15) hx hb hts iX7 hown hK hP 0 rfl rfl 0 (by decide) (hts (.fieldLink RX7 11 "PascalRowsModel" "g" "[I") (List.mem_of_getElem? (i := 1) rfl)) (fun _ h9 => h9) rfl dX7_markOf_29 ?_
    refine lv_iconst (v := (5 : Int32)) hx hb dX7_markOf_32 (by decide) ?_
    refine lv_iconst (v := (2 : Int32)) hx hb dX7_markOf_33 (by decide) ?_
    refine lv_iload_n hx hb dX7_markOf_34 rfl (lv_at hl 1 rfl) ?_
    refine lv_imul hx hb dX7_markOf_35 ?_
    refine lv_iadd hx hb dX7_markOf_36 ?_
    refine lv_iload_n hx hb dX7_markOf_37 rfl (lv_at hl 2 rfl) ?_
    refine lv_iadd hx hb dX7_markOf_38 ?_
    obtain ⟨g_4, eg_4, hg_4, hr⟩ := rd_e hr
    refine va_iald hx hb hK hP 1 0 rfl rfl hg_4 dX7_markOf_39 ?_
    refine tp_ eg_4 ?_
    refine lv_goto (tgt := 44) hx hb dX7_markOf_40 (by decide) ?_
    exact hret 44 ls _ dX7_markOf_44 (Option.some.inj hr)
  have tF_5 : ¬ ((¬ ((f_X7_isIn (Int32.toInt64 p0) (0 : Int64) (Int32.toInt64 (g_1 - (1 : Int32)))) = 0)) ∧ (¬ ((f_X7_isIn (Int32.toInt64 p1) (0 : Int64) (1 : Int64)) = 0))) → W p l e rmX7_markOf s m args below meth c s.heap [] 0 0 Q (F0 m 43 ls []) := by
    intro hc_2
    have hr := ite_n hr hc_2
    refine lv_iconst (v := (-1 : Int32)) hx hb dX7_markOf_43 (by decide) ?_
    exact hret 44 ls _ dX7_markOf_44 (Option.some.inj hr)
  refine lv_if_eq (tgt := 43) hx hb dX7_markOf_15 (by decide) (fun c_6 => ?_) (fun c_6 => ?_)
  · exact tF_5 (fun h => (fun h => h c_6) h.1)
  · refine lv_iload_n hx hb dX7_markOf_18 rfl (lv_at hl 2 rfl) ?_
    refine lv_i2l (v := (Int32.toInt64 p1)) hx hb dX7_markOf_19 rfl ?_
    refine lv_lconst (v := (0 : Int64)) hx hb dX7_markOf_20 (by decide) ?_
    refine lv_lconst (v := (1 : Int64)) hx hb dX7_markOf_21 (by decide) ?_
    refine ro_S ⟨hx, hb, hml, hown, hts⟩ (k_X7_isIn l dC dI cI cJ (Int32.toInt64 p1) (0 : Int64) (1 : Int64)) (va_cwS 3 hts gX7_markOf_X7_isIn rfl rfl rfl (by decide +kernel) ⟨Nat.le_of_ble_eq_true rfl, Nat.le_of_ble_eq_true rfl⟩) hE (hP.sub [] rfl) rfl hl.1 rfl (Nat.le_of_ble_eq_true rfl) dX7_markOf_22 ⟨Nat.zero_le _, Nat.zero_le _⟩ ?_
    refine lv_if_eq (tgt := 43) hx hb dX7_markOf_25 (by decide) (fun c_7 => ?_) (fun c_7 => ?_)
    · exact tF_5 (fun h => (fun h => h c_7) h.2)
    · exact tT_3 ⟨c_6, c_7⟩
/-! X7_at -/
def rmX7_at : Room := { frames := 3, cells := 0, slots := 0, locals := 65 }
set_option maxHeartbeats 4000000 in
set_option maxRecDepth 100000 in
theorem k_X7_at (l : Launch) (dC : Nat → ClassId) (dI : Nat → Nat → Nat) (cI cJ : ClassId) (a_o : Nat) (a_o_g : Nat) (a_o_kept : Nat) (a_o_was : Nat) (a_o_triangle : Nat) (a_o_text : Nat) (a_o_sort : Nat) (a_o_size : Nat) (a_o_items : Nat) (p0 : Int32) (p1 : Int32) (o_isKept : Int32) (o_takenBy : Int32) (o_fed : Int32) (o_place : Int32) (o_letter : Int32) (o_first : Int32) (o_second : Int32) (o_g : Nat → Int32) (o_triangle : Nat → Int32) (sz : Nat) (r : Int32 × (Nat → Int32) × Int32) (hr : f_X7_at p0 p1 o_g o_triangle o_takenBy = some r) : Met l yX7_at wsX7_at rmX7_at (va_Pc [.ref a_o, .int p0, .int p1] (pM (dC, dI) cI cJ [(a_o, .inr (6, [.ref a_o_g, .ref a_o_kept, .ref a_o_was, .int o_isKept, .ref a_o_triangle, .int o_takenBy, .ref a_o_text, .int o_fed, .int o_place, .int o_letter, .int o_first, .int o_second, .ref a_o_sort, .ref a_o_size, .ref a_o_items])), (a_o_g, .inl (cI, 64, .inl o_g)), (a_o_triangle, .inl (cI, 16384, .inl o_triangle))] sz)) (qM (some (.int r.1)) (dC, dI) [(a_o, .inr (6, [.ref a_o_g, .ref a_o_kept, .ref a_o_was, .int o_isKept, .ref a_o_triangle, .int r.2.2, .ref a_o_text, .int o_fed, .int o_place, .int o_letter, .int o_first, .int o_second, .ref a_o_sort, .ref a_o_size, .ref a_o_items])), (a_o_g, .inl (cI, 64, .inl o_g)), (a_o_triangle, .inl (cI, 16384, .inl r.2.1))] (va_A [(a_o, .inr (6, [.ref a_o_g, .ref a_o_kept, .ref a_o_was, .int o_isKept, .ref a_o_triangle, .int o_takenBy, .ref a_o_text, .int o_fed, .int o_place, .int o_letter, .int o_first, .int o_second, .ref a_o_sort, .ref a_o_size, .ref a_o_items])), (a_o_g, .inl (cI, 64, .inl o_g)), (a_o_triangle, .inl (cI, 16384, .inl o_triangle))] sz)) 0 0 (va_A [(a_o, .inr (6, [.ref a_o_g, .ref a_o_kept, .ref a_o_was, .int o_isKept, .ref a_o_triangle, .int o_takenBy, .ref a_o_text, .int o_fed, .int o_place, .int o_letter, .int o_first, .int o_second, .ref a_o_sort, .ref a_o_size, .ref a_o_items])), (a_o_g, .inl (cI, 64, .inl o_g)), (a_o_triangle, .inl (cI, 16384, .inl o_triangle))] sz) := by
  refine mu_of (cc := cX7_at) (maxL := 3) (by decide) rfl (Nat.le_of_ble_eq_true rfl) ?_
  intro p e s m args below meth c Q ls A hx hb hml hown hts hE hP hD hA hrt hlocks hret hl
  have hK := hE.1
  have hS : va_S A s.heap s.heap [] := va_S.rf
  have hl : lv_has ls 3 [(0, .ref a_o), (1, .int p0), (2, .int p1)] := hl
  unfold f_X7_at at hr
  obtain ⟨H, hHe⟩ : ∃ H, H = s.heap := ⟨_, rfl⟩
  obtain ⟨locs, hLe⟩ : ∃ locs : List Loc, locs = [] := ⟨_, rfl⟩
  suffices hgo : va_P (dC, dI) vwCl [(a_o, .inr (6, [.ref a_o_g, .ref a_o_kept, .ref a_o_was, .int o_isKept, .ref a_o_triangle, .int o_takenBy, .ref a_o_text, .int o_fed, .int o_place, .int o_letter, .int o_first, .int o_second, .ref a_o_sort, .ref a_o_size, .ref a_o_items])), (a_o_g, .inl (cI, 64, .inl o_g)), (a_o_triangle, .inl (cI, 16384, .inl o_triangle))] H → va_S A s.heap H locs → W p l e rmX7_at s m args below meth c H locs 0 0 Q (F0 m 0 ls []) by
    subst hHe; subst hLe; exact hgo hP hS
  clear hP hS hHe hLe
  intro hP hS
  have iX7 : ∀ w ∈ wsX70, w ∈ wsX7_at := memr_ (big := wsX7_at) wsX70 [27, 28, 29, 30, 31, 32, 33, 34, 35, 36, 37, 38, 39, 40, 41] (by decide +kernel)
  refine lv_iload_n hx hb dX7_at_0 rfl (lv_at hl 1 rfl) ?_
  refine ro_S ⟨hx, hb, hml, hown, hts⟩ (k_X7_isRow l dC dI cI cJ p0) (va_cwS 1 hts gX7_at_X7_isRow rfl rfl rfl (by decide +kernel) ⟨Nat.le_of_ble_eq_true rfl, Nat.le_of_ble_eq_true rfl⟩) hE (hP.sub [] rfl) rfl hl.1 rfl (Nat.le_of_ble_eq_true rfl) dX7_at_1 ⟨Nat.zero_le _, Nat.zero_le _⟩ ?_
  refine lv_if_eq (tgt := 16) hx hb dX7_at_4 (by decide) (fun c_1 => ?_) (fun c_1 => ?_)
  · have hr := ite_p hr c_1
    refine lv_iconst (v := (-1 : Int32)) hx hb dX7_at_16 (by decide) ?_
    obtain rfl := Option.some.inj hr
    exact hret H locs _ hP hS (fun Qc free hq hf => W.iret hx hb hrt hq hf dX7_at_17 hlocks)
  · have hr := ite_n hr c_1
    refine lv_aload_n hx hb dX7_at_7 rfl (lv_at hl 0 rfl) ?_
    refine lv_iload_n hx hb dX7_at_8 rfl (lv_at hl 1 rfl) ?_
    refine lv_iload_n hx hb dX7_at_9 rfl (lv_at hl 2 rfl) ?_
    obtain ⟨u_2, hu_2, hr⟩ := bd_e hr
    refine mu_V ⟨hx, hb, hml, hown, hts⟩ (k_X7_remainder l dC dI cI cJ a_o a_o_g a_o_kept a_o_was a_o_triangle a_o_text a_o_sort a_o_size a_o_items p0 p1 o_isKept o_takenBy o_fed o_place o_letter o_first o_second o_g o_triangle H.size u_2 hu_2) (cwV 2 hts gX7_at_X7_remainder rfl rfl rfl (by decide +kernel) ⟨Nat.le_of_ble_eq_true rfl, Nat.le_of_ble_eq_true rfl⟩) hE 0 rfl rfl rfl rfl hl.1 rfl (Nat.le_of_ble_eq_true rfl) dX7_at_10 ⟨Nat.zero_le _, Nat.zero_le _⟩ hP (hD.fst rfl) hS hA [0, 1, 2] [] [0, 1, 2] rfl rfl (by decide) (by decide) rfl (by decide) (W1 := [(a_o, .inr (6, [.ref a_o_g, .ref a_o_kept, .ref a_o_was, .int o_isKept, .ref a_o_triangle, .int u_2.2.2, .ref a_o_text, .int o_fed, .int o_place, .int o_letter, .int o_first, .int o_second, .ref a_o_sort, .ref a_o_size, .ref a_o_items])), (a_o_g, .inl (cI, 64, .inl o_g)), (a_o_triangle, .inl (cI, 16384, .inl u_2.2.1))]) rfl (fun H locs hP hS => W.eq (g2 := F0 m 13 ls [.int u_2.1]) rfl ?_)
    refine lv_goto (tgt := 17) hx hb dX7_at_13 (by decide) ?_
    obtain rfl := Option.some.inj hr
    exact hret H locs _ hP hS (fun Qc free hq hf => W.iret hx hb hrt hq hf dX7_at_17 hlocks)
/-! X7_rule -/
def rmX7_rule : Room := { frames := 4, cells := 0, slots := 0, locals := 88 }
set_option maxHeartbeats 4000000 in
set_option maxRecDepth 100000 in
theorem k_X7_rule (l : Launch) (dC : Nat → ClassId) (dI : Nat → Nat → Nat) (cI cJ : ClassId) (a_o : Nat) (a_o_g : Nat) (a_o_kept : Nat) (a_o_was : Nat) (a_o_triangle : Nat) (a_o_text : Nat) (a_o_sort : Nat) (a_o_size : Nat) (a_o_items : Nat) (p0 : Int32) (p1 : Int32) (p2 : Int32) (o_isKept : Int32) (o_takenBy : Int32) (o_fed : Int32) (o_place : Int32) (o_letter : Int32) (o_first : Int32) (o_second : Int32) (o_g : Nat → Int32) (o_triangle : Nat → Int32) (sz : Nat) (r : Int32 × (Nat → Int32) × Int32) (hr : f_X7_rule p0 p1 p2 o_g o_triangle o_takenBy = some r) : Met l yX7_rule wsX7_rule rmX7_rule (va_Pc [.ref a_o, .int p0, .int p1, .int p2] (pM (dC, dI) cI cJ [(a_o, .inr (6, [.ref a_o_g, .ref a_o_kept, .ref a_o_was, .int o_isKept, .ref a_o_triangle, .int o_takenBy, .ref a_o_text, .int o_fed, .int o_place, .int o_letter, .int o_first, .int o_second, .ref a_o_sort, .ref a_o_size, .ref a_o_items])), (a_o_g, .inl (cI, 64, .inl o_g)), (a_o_triangle, .inl (cI, 16384, .inl o_triangle))] sz)) (qM (some (.int r.1)) (dC, dI) [(a_o, .inr (6, [.ref a_o_g, .ref a_o_kept, .ref a_o_was, .int o_isKept, .ref a_o_triangle, .int r.2.2, .ref a_o_text, .int o_fed, .int o_place, .int o_letter, .int o_first, .int o_second, .ref a_o_sort, .ref a_o_size, .ref a_o_items])), (a_o_g, .inl (cI, 64, .inl o_g)), (a_o_triangle, .inl (cI, 16384, .inl r.2.1))] (va_A [(a_o, .inr (6, [.ref a_o_g, .ref a_o_kept, .ref a_o_was, .int o_isKept, .ref a_o_triangle, .int o_takenBy, .ref a_o_text, .int o_fed, .int o_place, .int o_letter, .int o_first, .int o_second, .ref a_o_sort, .ref a_o_size, .ref a_o_items])), (a_o_g, .inl (cI, 64, .inl o_g)), (a_o_triangle, .inl (cI, 16384, .inl o_triangle))] sz)) 0 0 (va_A [(a_o, .inr (6, [.ref a_o_g, .ref a_o_kept, .ref a_o_was, .int o_isKept, .ref a_o_triangle, .int o_takenBy, .ref a_o_text, .int o_fed, .int o_place, .int o_letter, .int o_first, .int o_second, .ref a_o_sort, .ref a_o_size, .ref a_o_items])), (a_o_g, .inl (cI, 64, .inl o_g)), (a_o_triangle, .inl (cI, 16384, .inl o_triangle))] sz) := by
  refine mu_of (cc := cX7_rule) (maxL := 4) (by decide) rfl (Nat.le_of_ble_eq_true rfl) ?_
  intro p e s m args below meth c Q ls A hx hb hml hown hts hE hP hD hA hrt hlocks hret hl
  have hK := hE.1
  have hS : va_S A s.heap s.heap [] := va_S.rf
  have hl : lv_has ls 4 [(0, .ref a_o), (1, .int p0), (2, .int p1), (3, .int p2)] := hl
  unfold f_X7_rule at hr
  obtain ⟨H, hHe⟩ : ∃ H, H = s.heap := ⟨_, rfl⟩
  obtain ⟨locs, hLe⟩ : ∃ locs : List Loc, locs = [] := ⟨_, rfl⟩
  suffices hgo : va_P (dC, dI) vwCl [(a_o, .inr (6, [.ref a_o_g, .ref a_o_kept, .ref a_o_was, .int o_isKept, .ref a_o_triangle, .int o_takenBy, .ref a_o_text, .int o_fed, .int o_place, .int o_letter, .int o_first, .int o_second, .ref a_o_sort, .ref a_o_size, .ref a_o_items])), (a_o_g, .inl (cI, 64, .inl o_g)), (a_o_triangle, .inl (cI, 16384, .inl o_triangle))] H → va_S A s.heap H locs → W p l e rmX7_rule s m args below meth c H locs 0 0 Q (F0 m 0 ls []) by
    subst hHe; subst hLe; exact hgo hP hS
  clear hP hS hHe hLe
  intro hP hS
  have iX7 : ∀ w ∈ wsX70, w ∈ wsX7_rule := memr_ (big := wsX7_rule) wsX70 [57, 58, 59, 60, 61, 62, 63, 64, 65, 66, 67, 68, 69, 70, 71] (by decide +kernel)
  refine lv_iload_n hx hb dX7_rule_0 rfl (lv_at hl 1 rfl) ?_
  refine ro_S ⟨hx, hb, hml, hown, hts⟩ (k_X7_isKind l dC dI cI cJ p0) (va_cwS 1 hts gX7_rule_X7_isKind rfl rfl rfl (by decide +kernel) ⟨Nat.le_of_ble_eq_true rfl, Nat.le_of_ble_eq_true rfl⟩) hE (hP.sub [] rfl) rfl hl.1 rfl (Nat.le_of_ble_eq_true rfl) dX7_rule_1 ⟨Nat.zero_le _, Nat.zero_le _⟩ ?_
  have tT_2 : ((¬ ((f_X7_isKind p0) = 0)) ∧ (¬ ((f_X7_isPlace p1 p2) = 0))) → W p l e rmX7_rule s m args below meth c H locs 0 0 Q (F0 m 15 ls []) := by
    intro hc_1
    have hr := ite_p hr hc_1
    refine lv_aload_n hx hb dX7_rule_15 rfl (lv_at hl 0 rfl) ?_
    refine lv_iload_n hx hb dX7_rule_16 rfl (lv_at hl 1 rfl) ?_
    refine lv_iload_n hx hb dX7_rule_17 rfl (lv_at hl 2 rfl) ?_
    refine lv_iload_n hx hb dX7_rule_18 rfl (lv_at hl 3 rfl) ?_
    obtain ⟨u_3, hu_3, hr⟩ := bd_e hr
    refine mu_V ⟨hx, hb, hml, hown, hts⟩ (k_X7_tells l dC dI cI cJ a_o a_o_g a_o_kept a_o_was a_o_triangle a_o_text a_o_sort a_o_size a_o_items p0 p1 p2 o_isKept o_takenBy o_fed o_place o_letter o_first o_second o_g o_triangle H.size u_3 hu_3) (cwV 3 hts gX7_rule_X7_tells rfl rfl rfl (by decide +kernel) ⟨Nat.le_of_ble_eq_true rfl, Nat.le_of_ble_eq_true rfl⟩) hE 0 rfl rfl rfl rfl hl.1 rfl (Nat.le_of_ble_eq_true rfl) dX7_rule_19 ⟨Nat.zero_le _, Nat.zero_le _⟩ hP (hD.fst rfl) hS hA [0, 1, 2] [] [0, 1, 2] rfl rfl (by decide) (by decide) rfl (by decide) (W1 := [(a_o, .inr (6, [.ref a_o_g, .ref a_o_kept, .ref a_o_was, .int o_isKept, .ref a_o_triangle, .int u_3.2.2, .ref a_o_text, .int o_fed, .int o_place, .int o_letter, .int o_first, .int o_second, .ref a_o_sort, .ref a_o_size, .ref a_o_items])), (a_o_g, .inl (cI, 64, .inl o_g)), (a_o_triangle, .inl (cI, 16384, .inl u_3.2.1))]) rfl (fun H locs hP hS => W.eq (g2 := F0 m 22 ls [.int u_3.1]) rfl ?_)
    refine lv_goto (tgt := 26) hx hb dX7_rule_22 (by decide) ?_
    obtain rfl := Option.some.inj hr
    exact hret H locs _ hP hS (fun Qc free hq hf => W.iret hx hb hrt hq hf dX7_rule_26 hlocks)
  have tF_4 : ¬ ((¬ ((f_X7_isKind p0) = 0)) ∧ (¬ ((f_X7_isPlace p1 p2) = 0))) → W p l e rmX7_rule s m args below meth c H locs 0 0 Q (F0 m 25 ls []) := by
    intro hc_1
    have hr := ite_n hr hc_1
    refine lv_iconst (v := (-1 : Int32)) hx hb dX7_rule_25 (by decide) ?_
    obtain rfl := Option.some.inj hr
    exact hret H locs _ hP hS (fun Qc free hq hf => W.iret hx hb hrt hq hf dX7_rule_26 hlocks)
  refine lv_if_eq (tgt := 25) hx hb dX7_rule_4 (by decide) (fun c_5 => ?_) (fun c_5 => ?_)
  · exact tF_4 (fun h => (fun h => h c_5) h.1)
  · refine lv_iload_n hx hb dX7_rule_7 rfl (lv_at hl 2 rfl) ?_
    refine lv_iload_n hx hb dX7_rule_8 rfl (lv_at hl 3 rfl) ?_
    refine ro_S ⟨hx, hb, hml, hown, hts⟩ (k_X7_isPlace l dC dI cI cJ p1 p2) (va_cwS 2 hts gX7_rule_X7_isPlace rfl rfl rfl (by decide +kernel) ⟨Nat.le_of_ble_eq_true rfl, Nat.le_of_ble_eq_true rfl⟩) hE (hP.sub [] rfl) rfl hl.1 rfl (Nat.le_of_ble_eq_true rfl) dX7_rule_9 ⟨Nat.zero_le _, Nat.zero_le _⟩ ?_
    refine lv_if_eq (tgt := 25) hx hb dX7_rule_12 (by decide) (fun c_6 => ?_) (fun c_6 => ?_)
    · exact tF_4 (fun h => (fun h => h c_6) h.2)
    · exact tT_2 ⟨c_5, c_6⟩
/-! X7_marked -/
def rmX7_marked : Room := { frames := 5, cells := 0, slots := 0, locals := 112 }
set_option maxHeartbeats 4000000 in
set_option maxRecDepth 100000 in
theorem k_X7_marked (l : Launch) (dC : Nat → ClassId) (dI : Nat → Nat → Nat) (cI cJ : ClassId) (a_o : Nat) (a_o_g : Nat) (a_o_kept : Nat) (a_o_was : Nat) (a_o_triangle : Nat) (a_o_text : Nat) (a_o_sort : Nat) (a_o_size : Nat) (a_o_items : Nat) (p0 : Int32) (p1 : Int32) (o_isKept : Int32) (o_takenBy : Int32) (o_fed : Int32) (o_place : Int32) (o_letter : Int32) (o_first : Int32) (o_second : Int32) (o_g : Nat → Int32) (o_triangle : Nat → Int32) (sz : Nat) (r : Int32 × (Nat → Int32) × Int32) (hr : f_X7_marked p0 p1 o_g o_triangle o_takenBy = some r) : Met l yX7_marked wsX7_marked rmX7_marked (va_Pc [.ref a_o, .int p0, .int p1] (pM (dC, dI) cI cJ [(a_o, .inr (6, [.ref a_o_g, .ref a_o_kept, .ref a_o_was, .int o_isKept, .ref a_o_triangle, .int o_takenBy, .ref a_o_text, .int o_fed, .int o_place, .int o_letter, .int o_first, .int o_second, .ref a_o_sort, .ref a_o_size, .ref a_o_items])), (a_o_g, .inl (cI, 64, .inl o_g)), (a_o_triangle, .inl (cI, 16384, .inl o_triangle))] sz)) (qM (some (.int r.1)) (dC, dI) [(a_o, .inr (6, [.ref a_o_g, .ref a_o_kept, .ref a_o_was, .int o_isKept, .ref a_o_triangle, .int r.2.2, .ref a_o_text, .int o_fed, .int o_place, .int o_letter, .int o_first, .int o_second, .ref a_o_sort, .ref a_o_size, .ref a_o_items])), (a_o_g, .inl (cI, 64, .inl o_g)), (a_o_triangle, .inl (cI, 16384, .inl r.2.1))] (va_A [(a_o, .inr (6, [.ref a_o_g, .ref a_o_kept, .ref a_o_was, .int o_isKept, .ref a_o_triangle, .int o_takenBy, .ref a_o_text, .int o_fed, .int o_place, .int o_letter, .int o_first, .int o_second, .ref a_o_sort, .ref a_o_size, .ref a_o_items])), (a_o_g, .inl (cI, 64, .inl o_g)), (a_o_triangle, .inl (cI, 16384, .inl o_triangle))] sz)) 0 0 (va_A [(a_o, .inr (6, [.ref a_o_g, .ref a_o_kept, .ref a_o_was, .int o_isKept, .ref a_o_triangle, .int o_takenBy, .ref a_o_text, .int o_fed, .int o_place, .int o_letter, .int o_first, .int o_second, .ref a_o_sort, .ref a_o_size, .ref a_o_items])), (a_o_g, .inl (cI, 64, .inl o_g)), (a_o_triangle, .inl (cI, 16384, .inl o_triangle))] sz) := by
  refine mu_of (cc := cX7_marked) (maxL := 3) (by decide) rfl (Nat.le_of_ble_eq_true rfl) ?_
  intro p e s m args below meth c Q ls A hx hb hml hown hts hE hP hD hA hrt hlocks hret hl
  have hK := hE.1
  have hS : va_S A s.heap s.heap [] := va_S.rf
  have hl : lv_has ls 3 [(0, .ref a_o), (1, .int p0), (2, .int p1)] := hl
  unfold f_X7_marked at hr
  obtain ⟨H, hHe⟩ : ∃ H, H = s.heap := ⟨_, rfl⟩
  obtain ⟨locs, hLe⟩ : ∃ locs : List Loc, locs = [] := ⟨_, rfl⟩
  suffices hgo : va_P (dC, dI) vwCl [(a_o, .inr (6, [.ref a_o_g, .ref a_o_kept, .ref a_o_was, .int o_isKept, .ref a_o_triangle, .int o_takenBy, .ref a_o_text, .int o_fed, .int o_place, .int o_letter, .int o_first, .int o_second, .ref a_o_sort, .ref a_o_size, .ref a_o_items])), (a_o_g, .inl (cI, 64, .inl o_g)), (a_o_triangle, .inl (cI, 16384, .inl o_triangle))] H → va_S A s.heap H locs → W p l e rmX7_marked s m args below meth c H locs 0 0 Q (F0 m 0 ls []) by
    subst hHe; subst hLe; exact hgo hP hS
  clear hP hS hHe hLe
  intro hP hS
  have iX7 : ∀ w ∈ wsX70, w ∈ wsX7_marked := memr_ (big := wsX7_marked) wsX70 [57, 58, 59, 60, 61, 62, 63, 64, 65, 66, 67, 68, 69, 70, 71] (by decide +kernel)
  refine lv_iload_n hx hb dX7_marked_0 rfl (lv_at hl 1 rfl) ?_
  refine lv_iload_n hx hb dX7_marked_1 rfl (lv_at hl 2 rfl) ?_
  refine ro_S ⟨hx, hb, hml, hown, hts⟩ (k_X7_isPlace l dC dI cI cJ p0 p1) (va_cwS 2 hts gX7_marked_X7_isPlace rfl rfl rfl (by decide +kernel) ⟨Nat.le_of_ble_eq_true rfl, Nat.le_of_ble_eq_true rfl⟩) hE (hP.sub [] rfl) rfl hl.1 rfl (Nat.le_of_ble_eq_true rfl) dX7_marked_2 ⟨Nat.zero_le _, Nat.zero_le _⟩ ?_
  refine lv_if_eq (tgt := 25) hx hb dX7_marked_5 (by decide) (fun c_1 => ?_) (fun c_1 => ?_)
  · have hr := ite_p hr c_1
    refine lv_iconst (v := (-1 : Int32)) hx hb dX7_marked_25 (by decide) ?_
    obtain rfl := Option.some.inj hr
    exact hret H locs _ hP hS (fun Qc free hq hf => W.iret hx hb hrt hq hf dX7_marked_26 hlocks)
  · have hr := ite_n hr c_1
    refine lv_aload_n hx hb dX7_marked_8 rfl (lv_at hl 0 rfl) ?_
    refine lv_iload_n hx hb dX7_marked_9 rfl (lv_at hl 1 rfl) ?_
    refine lv_iload_n hx hb dX7_marked_10 rfl (lv_at hl 2 rfl) ?_
    obtain ⟨u_2, hu_2, hr⟩ := bd_e hr
    refine mu_V ⟨hx, hb, hml, hown, hts⟩ (k_X7_isMarked l dC dI cI cJ a_o a_o_g a_o_kept a_o_was a_o_triangle a_o_text a_o_sort a_o_size a_o_items p0 p1 o_isKept o_takenBy o_fed o_place o_letter o_first o_second o_g o_triangle H.size u_2 hu_2) (cwV 2 hts gX7_marked_X7_isMarked rfl rfl rfl (by decide +kernel) ⟨Nat.le_of_ble_eq_true rfl, Nat.le_of_ble_eq_true rfl⟩) hE 0 rfl rfl rfl rfl hl.1 rfl (Nat.le_of_ble_eq_true rfl) dX7_marked_11 ⟨Nat.zero_le _, Nat.zero_le _⟩ hP (hD.fst rfl) hS hA [0, 1, 2] [] [0, 1, 2] rfl rfl (by decide) (by decide) rfl (by decide) (W1 := [(a_o, .inr (6, [.ref a_o_g, .ref a_o_kept, .ref a_o_was, .int o_isKept, .ref a_o_triangle, .int u_2.2.2, .ref a_o_text, .int o_fed, .int o_place, .int o_letter, .int o_first, .int o_second, .ref a_o_sort, .ref a_o_size, .ref a_o_items])), (a_o_g, .inl (cI, 64, .inl o_g)), (a_o_triangle, .inl (cI, 16384, .inl u_2.2.1))]) rfl (fun H locs hP hS => W.eq (g2 := F0 m 14 ls [.int u_2.1]) rfl ?_)
    have hJ_3 : ∀ (y_4 : Int32) (ey_4 : y_4 = (if (¬ (u_2.1 = 0)) then (1 : Int32) else (0 : Int32))) (ls : Array Slot), lv_has ls 3 [] → W p l e rmX7_marked s m args below meth c H locs 0 0 Q (F0 m 26 ls [.int y_4]) := by
      intro y_4 ey_4 ls hl
      subst ey_4
      obtain rfl := Option.some.inj hr
      exact hret H locs _ hP hS (fun Qc free hq hf => W.iret hx hb hrt hq hf dX7_marked_26 hlocks)
    refine lv_if_eq (tgt := 21) hx hb dX7_marked_14 (by decide) (fun c_5 => ?_) (fun c_5 => ?_)
    · refine lv_iconst (v := (0 : Int32)) hx hb dX7_marked_21 (by decide) ?_
      refine lv_goto (tgt := 26) hx hb dX7_marked_22 (by decide) ?_
      exact hJ_3 _ (if_neg (fun h => h c_5)).symm ls (lv_sub hl [] rfl)
    · refine lv_iconst (v := (1 : Int32)) hx hb dX7_marked_17 (by decide) ?_
      refine lv_goto (tgt := 26) hx hb dX7_marked_18 (by decide) ?_
      exact hJ_3 _ (if_pos c_5).symm ls (lv_sub hl [] rfl)
/-! X7_digit -/
def rmX7_digit : Room := { frames := 1, cells := 0, slots := 0, locals := 25 }
set_option maxHeartbeats 4000000 in
set_option maxRecDepth 100000 in
theorem k_X7_digit (l : Launch) (dC : Nat → ClassId) (dI : Nat → Nat → Nat) (cI cJ : ClassId) (a_o : Nat) (a_o_g : Nat) (a_o_kept : Nat) (a_o_was : Nat) (a_o_triangle : Nat) (a_o_text : Nat) (a_o_sort : Nat) (a_o_size : Nat) (a_o_items : Nat) (p0 : Int32) (p1 : Int32) (o_isKept : Int32) (o_takenBy : Int32) (o_fed : Int32) (o_place : Int32) (o_letter : Int32) (o_first : Int32) (o_second : Int32) (o_g : Nat → Int32) (r : Int32) (hr : f_X7_digit p0 p1 o_g = some r) : Met l yX7_digit wsX7_digit rmX7_digit (va_Pc [.ref a_o, .int p0, .int p1] (pE (dC, dI) cI cJ [(a_o, .inr (6, [.ref a_o_g, .ref a_o_kept, .ref a_o_was, .int o_isKept, .ref a_o_triangle, .int o_takenBy, .ref a_o_text, .int o_fed, .int o_place, .int o_letter, .int o_first, .int o_second, .ref a_o_sort, .ref a_o_size, .ref a_o_items])), (a_o_g, .inl (cI, 64, .inl o_g))])) (rq (.int r)) 0 0 nofree := by
  refine ro_of_i (cc := cX7_digit) (maxL := 6) (by decide) rfl (Nat.le_of_ble_eq_true rfl) ?_
  intro p e s m args below meth c Q ls hx hb hml hown hts hE hP hret hl
  have hK := hE.1
  have hl : lv_has ls 6 [(0, .ref a_o), (1, .int p0), (2, .int p1)] := hl
  unfold f_X7_digit at hr
  have iX7 : ∀ w ∈ wsX70, w ∈ wsX7_digit := memr_ (big := wsX7_digit) wsX70 [7, 8, 9, 10, 11, 12, 13, 14, 15, 16, 17, 18, 19, 20, 21] (by decide +kernel)
  refine lv_iload_n hx hb dX7_digit_0 rfl (lv_at hl 1 rfl) ?_
  refine lv_i2l (v := (Int32.toInt64 p0)) hx hb dX7_digit_1 rfl ?_
  refine lv_lconst (v := (0 : Int64)) hx hb dX7_digit_2 (by decide) ?_
  refine lv_ldc2 (v := (9999 : Int64)) hx hb hown (hts (.constantLong RX7 155 (9999)) (List.mem_of_getElem? (i := 1) rfl)) dX7_digit_3 ?_
  refine ro_S ⟨hx, hb, hml, hown, hts⟩ (k_X7_isIn l dC dI cI cJ (Int32.toInt64 p0) (0 : Int64) (9999 : Int64)) (va_cwS 3 hts gX7_digit_X7_isIn rfl rfl rfl (by decide +kernel) ⟨Nat.le_of_ble_eq_true rfl, Nat.le_of_ble_eq_true rfl⟩) hE (hP.sub [] rfl) rfl hl.1 rfl (Nat.le_of_ble_eq_true rfl) dX7_digit_6 ⟨Nat.zero_le _, Nat.zero_le _⟩ ?_
  refine lv_if_ne (tgt := 15) hx hb dX7_digit_9 (by decide) (fun c_1 => ?_) (fun c_1 => ?_)
  · have hr := ite_n hr c_1
    refine lv_iload_n hx hb dX7_digit_15 rfl (lv_at hl 2 rfl) ?_
    refine lv_iconst (v := (-1 : Int32)) hx hb dX7_digit_16 (by decide) ?_
    refine lv_icmp_ge (tgt := 22) hx hb dX7_digit_17 (by decide) (fun c_2 => ?_) (fun c_2 => ?_)
    · have hr := ite_p hr c_2
      refine lv_iconst (v := (1 : Int32)) hx hb dX7_digit_22 (by decide) ?_
      refine lv_istore_n (lv' := [(3, .int (1 : Int32)), (0, .ref a_o), (1, .int p0), (2, .int p1)]) hx hb dX7_digit_23 rfl hl (by decide) rfl (fun ls hl => ?_)
      refine lv_iload_n hx hb dX7_digit_24 rfl (lv_at hl 2 rfl) ?_
      refine lv_aload_n hx hb dX7_digit_25 rfl (lv_at hl 1 rfl) ?_
      refine va_get (D := (dC, dI)) (ci := 6) (v := .ref a_o_g) (C := RX7) (T := TX7) (N := 15) hx hb hts iX7 hown hK hP 0 rfl rfl 0 (by decide) (hts (.fieldLink RX7 11 "PascalRowsModel" "g" "[I") (List.mem_of_getElem? (i := 2) rfl)) (fun _ h9 => h9) rfl dX7_digit_26 ?_
      refine lv_iconst (v := (0 : Int32)) hx hb dX7_digit_29 (by decide) ?_
      obtain ⟨g_3, eg_3, hg_3, hr⟩ := rd_e hr
      refine va_iald hx hb hK hP 1 0 rfl rfl hg_3 dX7_digit_30 ?_
      refine tp_ eg_3 ?_
      obtain ⟨d_4, ed_4, hd_4, hr⟩ := dv_e hr
      refine lv_idiv hx hb dX7_digit_31 hd_4 ?_
      refine tp_ ed_4 ?_
      refine lv_istore (lv' := [(4, .int d_4), (3, .int (1 : Int32)), (0, .ref a_o), (1, .int p0), (2, .int p1)]) hx hb dX7_digit_32 hl (by decide) rfl (fun ls hl => ?_)
      have hL34 : ∀ (v1_34 : Int32) (v2_34 : Int32) (k_34 : Int32 → Option (Int32)) (hk : ∀ (x3_34 : Int32) (ls : Array Slot), lv_has ls 6 [(0, .ref a_o), (1, .int v1_34), (2, .int v2_34), (3, .int x3_34)] → k_34 x3_34 = some r → W p l e rmX7_digit s m args below meth c s.heap [] 0 0 Q (F0 m 56 ls [])) (fuel : Nat) (v3_34 : Int32) (v4_34 : Int32) (ls : Array Slot), lv_has ls 6 [(0, .ref a_o), (1, .int v1_34), (2, .int v2_34), (3, .int v3_34), (4, .int v4_34)] → f_X7_digit_L34 k_34 o_g fuel v3_34 v4_34 = some r → W p l e rmX7_digit s m args below meth c s.heap [] 0 0 Q (F0 m 34 ls []) := by
        intro v1_34 v2_34 k_34 hk fuel
        induction fuel with
        | zero =>
          intro v3_34 v4_34 ls hl hr
          rw [f_X7_digit_L34_z] at hr
          cases hr
        | succ fuel ih =>
          intro v3_34 v4_34 ls hl hr
          rw [f_X7_digit_L34_s] at hr
          refine lv_iload hx hb dX7_digit_34 (lv_at hl 4 rfl) ?_
          refine lv_if_le (tgt := 56) hx hb dX7_digit_36 (by decide) (fun c_5 => ?_) (fun c_5 => ?_)
          · have hr := ite_p hr c_5
            exact hk v3_34 ls (lv_sub hl [0, 1, 2, 3] rfl) hr
          · have hr := ite_n hr c_5
            refine lv_iinc (v := (v3_34 + (1 : Int32))) (lv' := [(3, .int (v3_34 + (1 : Int32))), (0, .ref a_o), (1, .int v1_34), (2, .int v2_34), (4, .int v4_34)]) hx hb dX7_digit_39 hl (k := 3) rfl (congrArg (fun z => v3_34 + z) (by decide)) (by decide) rfl (fun ls hl => ?_)
            refine lv_iload hx hb dX7_digit_42 (lv_at hl 4 rfl) ?_
            refine lv_aload_n hx hb dX7_digit_44 rfl (lv_at hl 1 rfl) ?_
            refine va_get (D := (dC, dI)) (ci := 6) (v := .ref a_o_g) (C := RX7) (T := TX7) (N := 15) hx hb hts iX7 hown hK hP 0 rfl rfl 0 (by decide) (hts (.fieldLink RX7 11 "PascalRowsModel" "g" "[I") (List.mem_of_getElem? (i := 2) rfl)) (fun _ h9 => h9) rfl dX7_digit_45 ?_
            refine lv_iconst (v := (0 : Int32)) hx hb dX7_digit_48 (by decide) ?_
            obtain ⟨g_6, eg_6, hg_6, hr⟩ := rd_e hr
            refine va_iald hx hb hK hP 1 0 rfl rfl hg_6 dX7_digit_49 ?_
            refine tp_ eg_6 ?_
            obtain ⟨d_7, ed_7, hd_7, hr⟩ := dv_e hr
            refine lv_idiv hx hb dX7_digit_50 hd_7 ?_
            refine tp_ ed_7 ?_
            refine lv_istore (lv' := [(4, .int d_7), (3, .int (v3_34 + (1 : Int32))), (0, .ref a_o), (1, .int v1_34), (2, .int v2_34)]) hx hb dX7_digit_51 hl (by decide) rfl (fun ls hl => ?_)
            refine lv_goto (tgt := 34) hx hb dX7_digit_53 (by decide) ?_
            exact ih (v3_34 + (1 : Int32)) d_7 ls (lv_sub hl [2, 3, 4, 1, 0] rfl) hr
      refine hL34 p0 p1 _ (fun x3_34 ls hl hr => ?_) 5000 (1 : Int32) d_4 ls (lv_sub hl [2, 3, 4, 1, 0] rfl) hr
      refine lv_iload_n hx hb dX7_digit_56 rfl (lv_at hl 2 rfl) ?_
      refine lv_if_ge (tgt := 62) hx hb dX7_digit_57 (by decide) (fun c_8 => ?_) (fun c_8 => ?_)
      · have hr := ite_p hr c_8
        refine lv_iload_n hx hb dX7_digit_62 rfl (lv_at hl 1 rfl) ?_
        refine lv_istore (lv' := [(4, .int p0), (0, .ref a_o), (1, .int p0), (2, .int p1), (3, .int x3_34)]) hx hb dX7_digit_63 hl (by decide) rfl (fun ls hl => ?_)
        refine lv_iconst (v := (0 : Int32)) hx hb dX7_digit_65 (by decide) ?_
        refine lv_istore (lv' := [(5, .int (0 : Int32)), (4, .int p0), (0, .ref a_o), (1, .int p0), (2, .int p1), (3, .int x3_34)]) hx hb dX7_digit_66 hl (by decide) rfl (fun ls hl => ?_)
        have hL68 : ∀ (v2_68 : Int32) (v3_68 : Int32) (k_68 : Int32 → Option (Int32)) (hk : ∀ (x4_68 : Int32) (ls : Array Slot), lv_has ls 6 [(0, .ref a_o), (2, .int v2_68), (3, .int v3_68), (4, .int x4_68)] → k_68 x4_68 = some r → W p l e rmX7_digit s m args below meth c s.heap [] 0 0 Q (F0 m 97 ls [])) (fuel : Nat) (v4_68 : Int32) (v5_68 : Int32) (ls : Array Slot), lv_has ls 6 [(0, .ref a_o), (2, .int v2_68), (3, .int v3_68), (4, .int v4_68), (5, .int v5_68)] → f_X7_digit_L68 k_68 v2_68 v3_68 o_g fuel v4_68 v5_68 = some r → W p l e rmX7_digit s m args below meth c s.heap [] 0 0 Q (F0 m 68 ls []) := by
          intro v2_68 v3_68 k_68 hk fuel
          induction fuel with
          | zero =>
            intro v4_68 v5_68 ls hl hr
            rw [f_X7_digit_L68_z] at hr
            cases hr
          | succ fuel ih =>
            intro v4_68 v5_68 ls hl hr
            rw [f_X7_digit_L68_s] at hr
            refine lv_iload hx hb dX7_digit_68 (lv_at hl 4 rfl) ?_
            refine lv_iload_n hx hb dX7_digit_70 rfl (lv_at hl 1 rfl) ?_
            have tT_10 : ((¬ (v2_68 ≤ v5_68)) ∧ (¬ (v3_68 ≤ v5_68))) → W p l e rmX7_digit s m args below meth c s.heap [] 0 0 Q (F0 m 80 ls []) := by
              intro hc_9
              have hr := ite_p hr hc_9
              refine lv_iload hx hb dX7_digit_80 (lv_at hl 3 rfl) ?_
              refine lv_aload_n hx hb dX7_digit_82 rfl (lv_at hl 0 rfl) ?_
              refine va_get (D := (dC, dI)) (ci := 6) (v := .ref a_o_g) (C := RX7) (T := TX7) (N := 15) hx hb hts iX7 hown hK hP 0 rfl rfl 0 (by decide) (hts (.fieldLink RX7 11 "PascalRowsModel" "g" "[I") (List.mem_of_getElem? (i := 2) rfl)) (fun _ h9 => h9) rfl dX7_digit_83 ?_
              refine lv_iconst (v := (0 : Int32)) hx hb dX7_digit_86 (by decide) ?_
              obtain ⟨g_11, eg_11, hg_11, hr⟩ := rd_e hr
              refine va_iald hx hb hK hP 1 0 rfl rfl hg_11 dX7_digit_87 ?_
              refine tp_ eg_11 ?_
              obtain ⟨d_12, ed_12, hd_12, hr⟩ := dv_e hr
              refine lv_idiv hx hb dX7_digit_88 hd_12 ?_
              refine tp_ ed_12 ?_
              refine lv_istore (lv' := [(4, .int d_12), (0, .ref a_o), (2, .int v2_68), (3, .int v3_68), (5, .int v5_68)]) hx hb dX7_digit_89 hl (by decide) rfl (fun ls hl => ?_)
              refine lv_iinc (v := (v5_68 + (1 : Int32))) (lv' := [(5, .int (v5_68 + (1 : Int32))), (4, .int d_12), (0, .ref a_o), (2, .int v2_68), (3, .int v3_68)]) hx hb dX7_digit_91 hl (k := 4) rfl (congrArg (fun z => v5_68 + z) (by decide)) (by decide) rfl (fun ls hl => ?_)
              refine lv_goto (tgt := 68) hx hb dX7_digit_94 (by decide) ?_
              exact ih d_12 (v5_68 + (1 : Int32)) ls (lv_sub hl [2, 3, 4, 1, 0] rfl) hr
            have tF_13 : ¬ ((¬ (v2_68 ≤ v5_68)) ∧ (¬ (v3_68 ≤ v5_68))) → W p l e rmX7_digit s m args below meth c s.heap [] 0 0 Q (F0 m 97 ls []) := by
              intro hc_9
              have hr := ite_n hr hc_9
              exact hk v4_68 ls (lv_sub hl [0, 1, 2, 3] rfl) hr
            refine lv_icmp_ge (tgt := 97) hx hb dX7_digit_71 (by decide) (fun c_14 => ?_) (fun c_14 => ?_)
            · exact tF_13 (fun h => (fun h => h c_14) h.1)
            · refine lv_iload hx hb dX7_digit_74 (lv_at hl 4 rfl) ?_
              refine lv_iload_n hx hb dX7_digit_76 rfl (lv_at hl 2 rfl) ?_
              refine lv_icmp_ge (tgt := 97) hx hb dX7_digit_77 (by decide) (fun c_15 => ?_) (fun c_15 => ?_)
              · exact tF_13 (fun h => (fun h => h c_15) h.2)
              · exact tT_10 ⟨c_14, c_15⟩
        refine hL68 p1 x3_34 _ (fun x4_68 ls hl hr => ?_) 5000 p0 (0 : Int32) ls (lv_sub hl [2, 4, 5, 1, 0] rfl) hr
        refine lv_iload_n hx hb dX7_digit_97 rfl (lv_at hl 1 rfl) ?_
        refine lv_iload_n hx hb dX7_digit_98 rfl (lv_at hl 2 rfl) ?_
        refine lv_icmp_ge (tgt := 114) hx hb dX7_digit_99 (by decide) (fun c_16 => ?_) (fun c_16 => ?_)
        · have hr := ite_p hr c_16
          refine lv_bipush (v := (-5 : Int32)) hx hb dX7_digit_114 (by decide) ?_
          exact hret 116 ls _ dX7_digit_116 (Option.some.inj hr)
        · have hr := ite_n hr c_16
          refine lv_iload hx hb dX7_digit_102 (lv_at hl 3 rfl) ?_
          refine lv_aload_n hx hb dX7_digit_104 rfl (lv_at hl 0 rfl) ?_
          refine va_get (D := (dC, dI)) (ci := 6) (v := .ref a_o_g) (C := RX7) (T := TX7) (N := 15) hx hb hts iX7 hown hK hP 0 rfl rfl 0 (by decide) (hts (.fieldLink RX7 11 "PascalRowsModel" "g" "[I") (List.mem_of_getElem? (i := 2) rfl)) (fun _ h9 => h9) rfl dX7_digit_105 ?_
          refine lv_iconst (v := (0 : Int32)) hx hb dX7_digit_108 (by decide) ?_
          obtain ⟨g_17, eg_17, hg_17, hr⟩ := rd_e hr
          refine va_iald hx hb hK hP 1 0 rfl rfl hg_17 dX7_digit_109 ?_
          refine tp_ eg_17 ?_
          obtain ⟨d_18, ed_18, hd_18, hr⟩ := md_e hr
          refine lv_irem hx hb dX7_digit_110 hd_18 ?_
          refine tp_ ed_18 ?_
          refine lv_goto (tgt := 116) hx hb dX7_digit_111 (by decide) ?_
          exact hret 116 ls _ dX7_digit_116 (Option.some.inj hr)
      · have hr := ite_n hr c_8
        refine lv_iload_n hx hb dX7_digit_60 rfl (lv_at hl 3 rfl) ?_
        exact hret 61 ls _ dX7_digit_61 (Option.some.inj hr)
    · have hr := ite_n hr c_2
      refine lv_iconst (v := (-1 : Int32)) hx hb dX7_digit_20 (by decide) ?_
      exact hret 21 ls _ dX7_digit_21 (Option.some.inj hr)
  · have hr := ite_p hr c_1
    refine lv_bipush (v := (-2 : Int32)) hx hb dX7_digit_12 (by decide) ?_
    exact hret 14 ls _ dX7_digit_14 (Option.some.inj hr)
/-! X7_pure -/
def rmX7_pure : Room := { frames := 1, cells := 0, slots := 0, locals := 25 }
set_option maxHeartbeats 4000000 in
set_option maxRecDepth 100000 in
theorem k_X7_pure (l : Launch) (dC : Nat → ClassId) (dI : Nat → Nat → Nat) (cI cJ : ClassId) (a_o : Nat) (a_o_g : Nat) (a_o_kept : Nat) (a_o_was : Nat) (a_o_triangle : Nat) (a_o_text : Nat) (a_o_sort : Nat) (a_o_size : Nat) (a_o_items : Nat) (p0 : Int32) (p1 : Int32) (o_isKept : Int32) (o_takenBy : Int32) (o_fed : Int32) (o_place : Int32) (o_letter : Int32) (o_first : Int32) (o_second : Int32) (o_g : Nat → Int32) (r : Int32) (hr : f_X7_pure p0 p1 o_g = some r) : Met l yX7_pure wsX7_pure rmX7_pure (va_Pc [.ref a_o, .int p0, .int p1] (pE (dC, dI) cI cJ [(a_o, .inr (6, [.ref a_o_g, .ref a_o_kept, .ref a_o_was, .int o_isKept, .ref a_o_triangle, .int o_takenBy, .ref a_o_text, .int o_fed, .int o_place, .int o_letter, .int o_first, .int o_second, .ref a_o_sort, .ref a_o_size, .ref a_o_items])), (a_o_g, .inl (cI, 64, .inl o_g))])) (rq (.int r)) 0 0 nofree := by
  refine ro_of_i (cc := cX7_pure) (maxL := 5) (by decide) rfl (Nat.le_of_ble_eq_true rfl) ?_
  intro p e s m args below meth c Q ls hx hb hml hown hts hE hP hret hl
  have hK := hE.1
  have hl : lv_has ls 5 [(0, .ref a_o), (1, .int p0), (2, .int p1)] := hl
  unfold f_X7_pure at hr
  have iX7 : ∀ w ∈ wsX70, w ∈ wsX7_pure := memr_ (big := wsX7_pure) wsX70 [7, 8, 9, 10, 11, 12, 13, 14, 15, 16, 17, 18, 19, 20, 21] (by decide +kernel)
  refine lv_iload_n hx hb dX7_pure_0 rfl (lv_at hl 1 rfl) ?_
  refine lv_i2l (v := (Int32.toInt64 p0)) hx hb dX7_pure_1 rfl ?_
  refine lv_lconst (v := (1 : Int64)) hx hb dX7_pure_2 (by decide) ?_
  refine lv_ldc2 (v := (9999 : Int64)) hx hb hown (hts (.constantLong RX7 155 (9999)) (List.mem_of_getElem? (i := 1) rfl)) dX7_pure_3 ?_
  refine ro_S ⟨hx, hb, hml, hown, hts⟩ (k_X7_isIn l dC dI cI cJ (Int32.toInt64 p0) (1 : Int64) (9999 : Int64)) (va_cwS 3 hts gX7_pure_X7_isIn rfl rfl rfl (by decide +kernel) ⟨Nat.le_of_ble_eq_true rfl, Nat.le_of_ble_eq_true rfl⟩) hE (hP.sub [] rfl) rfl hl.1 rfl (Nat.le_of_ble_eq_true rfl) dX7_pure_6 ⟨Nat.zero_le _, Nat.zero_le _⟩ ?_
  refine lv_if_ne (tgt := 15) hx hb dX7_pure_9 (by decide) (fun c_1 => ?_) (fun c_1 => ?_)
  · have hr := ite_n hr c_1
    refine lv_iload_n hx hb dX7_pure_15 rfl (lv_at hl 2 rfl) ?_
    refine lv_i2l (v := (Int32.toInt64 p1)) hx hb dX7_pure_16 rfl ?_
    refine lv_lconst (v := (0 : Int64)) hx hb dX7_pure_17 (by decide) ?_
    refine lv_lconst (v := (1 : Int64)) hx hb dX7_pure_18 (by decide) ?_
    refine ro_S ⟨hx, hb, hml, hown, hts⟩ (k_X7_isIn l dC dI cI cJ (Int32.toInt64 p1) (0 : Int64) (1 : Int64)) (va_cwS 3 hts gX7_pure_X7_isIn rfl rfl rfl (by decide +kernel) ⟨Nat.le_of_ble_eq_true rfl, Nat.le_of_ble_eq_true rfl⟩) hE (hP.sub [] rfl) rfl hl.1 rfl (Nat.le_of_ble_eq_true rfl) dX7_pure_19 ⟨Nat.zero_le _, Nat.zero_le _⟩ ?_
    refine lv_if_ne (tgt := 27) hx hb dX7_pure_22 (by decide) (fun c_2 => ?_) (fun c_2 => ?_)
    · have hr := ite_n hr c_2
      refine lv_iload_n hx hb dX7_pure_27 rfl (lv_at hl 1 rfl) ?_
      refine lv_istore_n (lv' := [(3, .int p0), (0, .ref a_o), (1, .int p0), (2, .int p1)]) hx hb dX7_pure_28 rfl hl (by decide) rfl (fun ls hl => ?_)
      refine lv_iconst (v := (0 : Int32)) hx hb dX7_pure_29 (by decide) ?_
      refine lv_istore (lv' := [(4, .int (0 : Int32)), (3, .int p0), (0, .ref a_o), (1, .int p0), (2, .int p1)]) hx hb dX7_pure_30 hl (by decide) rfl (fun ls hl => ?_)
      have hL32 : ∀ (v2_32 : Int32) (k_32 : Int32 → Int32 → Option (Int32)) (hk : ∀ (x3_32 : Int32) (x4_32 : Int32) (ls : Array Slot), lv_has ls 5 [(2, .int v2_32), (3, .int x3_32), (4, .int x4_32)] → k_32 x3_32 x4_32 = some r → W p l e rmX7_pure s m args below meth c s.heap [] 0 0 Q (F0 m 58 ls [])) (fuel : Nat) (v3_32 : Int32) (v4_32 : Int32) (ls : Array Slot), lv_has ls 5 [(0, .ref a_o), (2, .int v2_32), (3, .int v3_32), (4, .int v4_32)] → f_X7_pure_L32 k_32 o_g fuel v3_32 v4_32 = some r → W p l e rmX7_pure s m args below meth c s.heap [] 0 0 Q (F0 m 32 ls []) := by
        intro v2_32 k_32 hk fuel
        induction fuel with
        | zero =>
          intro v3_32 v4_32 ls hl hr
          rw [f_X7_pure_L32_z] at hr
          cases hr
        | succ fuel ih =>
          intro v3_32 v4_32 ls hl hr
          rw [f_X7_pure_L32_s] at hr
          refine lv_iload_n hx hb dX7_pure_32 rfl (lv_at hl 2 rfl) ?_
          refine lv_aload_n hx hb dX7_pure_33 rfl (lv_at hl 0 rfl) ?_
          refine va_get (D := (dC, dI)) (ci := 6) (v := .ref a_o_g) (C := RX7) (T := TX7) (N := 15) hx hb hts iX7 hown hK hP 0 rfl rfl 0 (by decide) (hts (.fieldLink RX7 11 "PascalRowsModel" "g" "[I") (List.mem_of_getElem? (i := 2) rfl)) (fun _ h9 => h9) rfl dX7_pure_34 ?_
          refine lv_iconst (v := (0 : Int32)) hx hb dX7_pure_37 (by decide) ?_
          obtain ⟨g_3, eg_3, hg_3, hr⟩ := rd_e hr
          refine va_iald hx hb hK hP 1 0 rfl rfl hg_3 dX7_pure_38 ?_
          refine tp_ eg_3 ?_
          obtain ⟨d_4, ed_4, hd_4, hr⟩ := md_e hr
          refine lv_irem hx hb dX7_pure_39 hd_4 ?_
          refine tp_ ed_4 ?_
          refine lv_if_ne (tgt := 58) hx hb dX7_pure_40 (by decide) (fun c_5 => ?_) (fun c_5 => ?_)
          · have hr := ite_n hr c_5
            exact hk v3_32 v4_32 ls (lv_sub hl [1, 2, 3] rfl) hr
          · have hr := ite_p hr c_5
            refine lv_iload_n hx hb dX7_pure_43 rfl (lv_at hl 2 rfl) ?_
            refine lv_aload_n hx hb dX7_pure_44 rfl (lv_at hl 0 rfl) ?_
            refine va_get (D := (dC, dI)) (ci := 6) (v := .ref a_o_g) (C := RX7) (T := TX7) (N := 15) hx hb hts iX7 hown hK hP 0 rfl rfl 0 (by decide) (hts (.fieldLink RX7 11 "PascalRowsModel" "g" "[I") (List.mem_of_getElem? (i := 2) rfl)) (fun _ h9 => h9) rfl dX7_pure_45 ?_
            refine lv_iconst (v := (0 : Int32)) hx hb dX7_pure_48 (by decide) ?_
            obtain ⟨g_6, eg_6, hg_6, hr⟩ := rd_e hr
            refine va_iald hx hb hK hP 1 0 rfl rfl hg_6 dX7_pure_49 ?_
            refine tp_ eg_6 ?_
            obtain ⟨d_7, ed_7, hd_7, hr⟩ := dv_e hr
            refine lv_idiv hx hb dX7_pure_50 hd_7 ?_
            refine tp_ ed_7 ?_
            refine lv_istore_n (lv' := [(3, .int d_7), (0, .ref a_o), (2, .int v2_32), (4, .int v4_32)]) hx hb dX7_pure_51 rfl hl (by decide) rfl (fun ls hl => ?_)
            refine lv_iinc (v := (v4_32 + (1 : Int32))) (lv' := [(4, .int (v4_32 + (1 : Int32))), (3, .int d_7), (0, .ref a_o), (2, .int v2_32)]) hx hb dX7_pure_52 hl (k := 3) rfl (congrArg (fun z => v4_32 + z) (by decide)) (by decide) rfl (fun ls hl => ?_)
            refine lv_goto (tgt := 32) hx hb dX7_pure_55 (by decide) ?_
            exact ih d_7 (v4_32 + (1 : Int32)) ls (lv_sub hl [2, 3, 1, 0] rfl) hr
      refine hL32 p1 _ (fun x3_32 x4_32 ls hl hr => ?_) 5000 p0 (0 : Int32) ls (lv_sub hl [2, 4, 1, 0] rfl) hr
      refine lv_iload_n hx hb dX7_pure_58 rfl (lv_at hl 0 rfl) ?_
      have hJ_8 : ∀ (y_9 : Int32) (ey_9 : y_9 = (if (¬ (p1 = 0)) then x4_32 else x3_32)) (ls : Array Slot), lv_has ls 5 [] → W p l e rmX7_pure s m args below meth c s.heap [] 0 0 Q (F0 m 68 ls [.int y_9]) := by
        intro y_9 ey_9 ls hl
        subst ey_9
        exact hret 68 ls _ dX7_pure_68 (Option.some.inj hr)
      refine lv_if_ne (tgt := 66) hx hb dX7_pure_59 (by decide) (fun c_10 => ?_) (fun c_10 => ?_)
      · refine lv_iload hx hb dX7_pure_66 (lv_at hl 2 rfl) ?_
        exact hJ_8 _ (if_pos c_10).symm ls (lv_sub hl [] rfl)
      · refine lv_iload_n hx hb dX7_pure_62 rfl (lv_at hl 1 rfl) ?_
        refine lv_goto (tgt := 68) hx hb dX7_pure_63 (by decide) ?_
        exact hJ_8 _ (if_neg (fun h => h c_10)).symm ls (lv_sub hl [] rfl)
    · have hr := ite_p hr c_2
      refine lv_iconst (v := (-1 : Int32)) hx hb dX7_pure_25 (by decide) ?_
      exact hret 26 ls _ dX7_pure_26 (Option.some.inj hr)
  · have hr := ite_p hr c_1
    refine lv_bipush (v := (-2 : Int32)) hx hb dX7_pure_12 (by decide) ?_
    exact hret 14 ls _ dX7_pure_14 (Option.some.inj hr)
/-! X7_countOf -/
def rmX7_countOf : Room := { frames := 3, cells := 0, slots := 0, locals := 65 }
set_option maxHeartbeats 4000000 in
set_option maxRecDepth 100000 in
theorem k_X7_countOf (l : Launch) (dC : Nat → ClassId) (dI : Nat → Nat → Nat) (cI cJ : ClassId) (a_o : Nat) (a_o_g : Nat) (a_o_kept : Nat) (a_o_was : Nat) (a_o_triangle : Nat) (a_o_text : Nat) (a_o_sort : Nat) (a_o_size : Nat) (a_o_items : Nat) (p0 : Int32) (p1 : Int32) (o_isKept : Int32) (o_takenBy : Int32) (o_fed : Int32) (o_place : Int32) (o_letter : Int32) (o_first : Int32) (o_second : Int32) (o_g : Nat → Int32) (o_triangle : Nat → Int32) (sz : Nat) (r : Int32 × (Nat → Int32) × Int32) (hr : f_X7_countOf p0 p1 o_g o_triangle o_takenBy = some r) : Met l yX7_countOf wsX7_countOf rmX7_countOf (va_Pc [.ref a_o, .int p0, .int p1] (pM (dC, dI) cI cJ [(a_o, .inr (6, [.ref a_o_g, .ref a_o_kept, .ref a_o_was, .int o_isKept, .ref a_o_triangle, .int o_takenBy, .ref a_o_text, .int o_fed, .int o_place, .int o_letter, .int o_first, .int o_second, .ref a_o_sort, .ref a_o_size, .ref a_o_items])), (a_o_g, .inl (cI, 64, .inl o_g)), (a_o_triangle, .inl (cI, 16384, .inl o_triangle))] sz)) (qM (some (.int r.1)) (dC, dI) [(a_o, .inr (6, [.ref a_o_g, .ref a_o_kept, .ref a_o_was, .int o_isKept, .ref a_o_triangle, .int r.2.2, .ref a_o_text, .int o_fed, .int o_place, .int o_letter, .int o_first, .int o_second, .ref a_o_sort, .ref a_o_size, .ref a_o_items])), (a_o_g, .inl (cI, 64, .inl o_g)), (a_o_triangle, .inl (cI, 16384, .inl r.2.1))] (va_A [(a_o, .inr (6, [.ref a_o_g, .ref a_o_kept, .ref a_o_was, .int o_isKept, .ref a_o_triangle, .int o_takenBy, .ref a_o_text, .int o_fed, .int o_place, .int o_letter, .int o_first, .int o_second, .ref a_o_sort, .ref a_o_size, .ref a_o_items])), (a_o_g, .inl (cI, 64, .inl o_g)), (a_o_triangle, .inl (cI, 16384, .inl o_triangle))] sz)) 0 0 (va_A [(a_o, .inr (6, [.ref a_o_g, .ref a_o_kept, .ref a_o_was, .int o_isKept, .ref a_o_triangle, .int o_takenBy, .ref a_o_text, .int o_fed, .int o_place, .int o_letter, .int o_first, .int o_second, .ref a_o_sort, .ref a_o_size, .ref a_o_items])), (a_o_g, .inl (cI, 64, .inl o_g)), (a_o_triangle, .inl (cI, 16384, .inl o_triangle))] sz) := by
  refine mu_of (cc := cX7_countOf) (maxL := 5) (by decide) rfl (Nat.le_of_ble_eq_true rfl) ?_
  intro p e s m args below meth c Q ls A hx hb hml hown hts hE hP hD hA hrt hlocks hret hl
  have hK := hE.1
  have hS : va_S A s.heap s.heap [] := va_S.rf
  have hl : lv_has ls 5 [(0, .ref a_o), (1, .int p0), (2, .int p1)] := hl
  unfold f_X7_countOf at hr
  obtain ⟨H, hHe⟩ : ∃ H, H = s.heap := ⟨_, rfl⟩
  obtain ⟨locs, hLe⟩ : ∃ locs : List Loc, locs = [] := ⟨_, rfl⟩
  suffices hgo : va_P (dC, dI) vwCl [(a_o, .inr (6, [.ref a_o_g, .ref a_o_kept, .ref a_o_was, .int o_isKept, .ref a_o_triangle, .int o_takenBy, .ref a_o_text, .int o_fed, .int o_place, .int o_letter, .int o_first, .int o_second, .ref a_o_sort, .ref a_o_size, .ref a_o_items])), (a_o_g, .inl (cI, 64, .inl o_g)), (a_o_triangle, .inl (cI, 16384, .inl o_triangle))] H → va_S A s.heap H locs → W p l e rmX7_countOf s m args below meth c H locs 0 0 Q (F0 m 0 ls []) by
    subst hHe; subst hLe; exact hgo hP hS
  clear hP hS hHe hLe
  intro hP hS
  have iX7 : ∀ w ∈ wsX70, w ∈ wsX7_countOf := memr_ (big := wsX7_countOf) wsX70 [24, 25, 26, 27, 28, 29, 30, 31, 32, 33, 34, 35, 36, 37, 38] (by decide +kernel)
  refine lv_iconst (v := (0 : Int32)) hx hb dX7_countOf_0 (by decide) ?_
  refine lv_istore_n (lv' := [(3, .int (0 : Int32)), (0, .ref a_o), (1, .int p0), (2, .int p1)]) hx hb dX7_countOf_1 rfl hl (by decide) rfl (fun ls hl => ?_)
  refine lv_iconst (v := (0 : Int32)) hx hb dX7_countOf_2 (by decide) ?_
  refine lv_istore (lv' := [(4, .int (0 : Int32)), (3, .int (0 : Int32)), (0, .ref a_o), (1, .int p0), (2, .int p1)]) hx hb dX7_countOf_3 hl (by decide) rfl (fun ls hl => ?_)
  have hL5 : ∀ (v1_5 : Int32) (v2_5 : Int32) (k_5 : Int32 → (Nat → Int32) → (Int32) → Option (Int32 × (Nat → Int32) × Int32)) (hk : ∀ (x3_5 : Int32) (xc_o_triangle_5 : Nat → Int32) (xc_o_takenBy_5 : Int32) (ls : Array Slot), lv_has ls 5 [(3, .int x3_5)] → ∀ (H : Heap) (locs : List Loc), va_P (dC, dI) vwCl [(a_o, .inr (6, [.ref a_o_g, .ref a_o_kept, .ref a_o_was, .int o_isKept, .ref a_o_triangle, .int xc_o_takenBy_5, .ref a_o_text, .int o_fed, .int o_place, .int o_letter, .int o_first, .int o_second, .ref a_o_sort, .ref a_o_size, .ref a_o_items])), (a_o_g, .inl (cI, 64, .inl o_g)), (a_o_triangle, .inl (cI, 16384, .inl xc_o_triangle_5))] H → va_S A s.heap H locs →  k_5 x3_5 xc_o_triangle_5 xc_o_takenBy_5 = some r → W p l e rmX7_countOf s m args below meth c H locs 0 0 Q (F0 m 36 ls [])) (fuel : Nat) (v3_5 : Int32) (v4_5 : Int32) (o_triangle_5 : Nat → Int32) (o_takenBy_5 : Int32) (ls : Array Slot), lv_has ls 5 [(0, .ref a_o), (1, .int v1_5), (2, .int v2_5), (3, .int v3_5), (4, .int v4_5)] → ∀ (H : Heap) (locs : List Loc), va_P (dC, dI) vwCl [(a_o, .inr (6, [.ref a_o_g, .ref a_o_kept, .ref a_o_was, .int o_isKept, .ref a_o_triangle, .int o_takenBy_5, .ref a_o_text, .int o_fed, .int o_place, .int o_letter, .int o_first, .int o_second, .ref a_o_sort, .ref a_o_size, .ref a_o_items])), (a_o_g, .inl (cI, 64, .inl o_g)), (a_o_triangle, .inl (cI, 16384, .inl o_triangle_5))] H → va_S A s.heap H locs → f_X7_countOf_L5 k_5 v1_5 v2_5 o_g fuel v3_5 v4_5 o_triangle_5 o_takenBy_5 = some r → W p l e rmX7_countOf s m args below meth c H locs 0 0 Q (F0 m 5 ls []) := by
    intro v1_5 v2_5 k_5 hk fuel
    induction fuel with
    | zero =>
      intro v3_5 v4_5 o_triangle_5 o_takenBy_5 ls hl H locs hP hS hr
      rw [f_X7_countOf_L5_z] at hr
      cases hr
    | succ fuel ih =>
      intro v3_5 v4_5 o_triangle_5 o_takenBy_5 ls hl H locs hP hS hr
      rw [f_X7_countOf_L5_s] at hr
      refine lv_iload hx hb dX7_countOf_5 (lv_at hl 4 rfl) ?_
      refine lv_iload_n hx hb dX7_countOf_7 rfl (lv_at hl 1 rfl) ?_
      refine lv_icmp_gt (tgt := 36) hx hb dX7_countOf_8 (by decide) (fun c_1 => ?_) (fun c_1 => ?_)
      · have hr := ite_p hr c_1
        exact hk v3_5 o_triangle_5 o_takenBy_5 ls (lv_sub hl [3] rfl) H locs hP hS hr
      · have hr := ite_n hr c_1
        refine lv_iload_n hx hb dX7_countOf_11 rfl (lv_at hl 3 rfl) ?_
        refine lv_aload_n hx hb dX7_countOf_12 rfl (lv_at hl 0 rfl) ?_
        refine lv_iload_n hx hb dX7_countOf_13 rfl (lv_at hl 1 rfl) ?_
        refine lv_iload hx hb dX7_countOf_14 (lv_at hl 4 rfl) ?_
        obtain ⟨u_2, hu_2, hr⟩ := bd_e hr
        refine mu_V ⟨hx, hb, hml, hown, hts⟩ (k_X7_remainder l dC dI cI cJ a_o a_o_g a_o_kept a_o_was a_o_triangle a_o_text a_o_sort a_o_size a_o_items v1_5 v4_5 o_isKept o_takenBy_5 o_fed o_place o_letter o_first o_second o_g o_triangle_5 H.size u_2 hu_2) (cwV 2 hts gX7_countOf_X7_remainder rfl rfl rfl (by decide +kernel) ⟨Nat.le_of_ble_eq_true rfl, Nat.le_of_ble_eq_true rfl⟩) hE 0 rfl rfl rfl rfl hl.1 rfl (Nat.le_of_ble_eq_true rfl) dX7_countOf_16 ⟨Nat.zero_le _, Nat.zero_le _⟩ hP (hD.fst rfl) hS hA [0, 1, 2] [] [0, 1, 2] rfl rfl (by decide) (by decide) rfl (by decide) (W1 := [(a_o, .inr (6, [.ref a_o_g, .ref a_o_kept, .ref a_o_was, .int o_isKept, .ref a_o_triangle, .int u_2.2.2, .ref a_o_text, .int o_fed, .int o_place, .int o_letter, .int o_first, .int o_second, .ref a_o_sort, .ref a_o_size, .ref a_o_items])), (a_o_g, .inl (cI, 64, .inl o_g)), (a_o_triangle, .inl (cI, 16384, .inl u_2.2.1))]) rfl (fun H locs hP hS => W.eq (g2 := F0 m 19 ls [.int u_2.1, .int v3_5]) rfl ?_)
        refine lv_iload_n hx hb dX7_countOf_19 rfl (lv_at hl 2 rfl) ?_
        have hJ_3 : ∀ (y_4 : Int32) (ey_4 : y_4 = (if (u_2.1 = v2_5) then (1 : Int32) else (0 : Int32))) (ls : Array Slot), lv_has ls 5 [(0, .ref a_o), (1, .int v1_5), (2, .int v2_5), (4, .int v4_5)] → W p l e rmX7_countOf s m args below meth c H locs 0 0 Q (F0 m 28 ls [.int y_4, .int v3_5]) := by
          intro y_4 ey_4 ls hl
          subst ey_4
          refine lv_iadd hx hb dX7_countOf_28 ?_
          refine lv_istore_n (lv' := [(3, .int (v3_5 + (if (u_2.1 = v2_5) then (1 : Int32) else (0 : Int32)))), (0, .ref a_o), (1, .int v1_5), (2, .int v2_5), (4, .int v4_5)]) hx hb dX7_countOf_29 rfl hl (by decide) rfl (fun ls hl => ?_)
          refine lv_iinc (v := (v4_5 + (1 : Int32))) (lv' := [(4, .int (v4_5 + (1 : Int32))), (3, .int (v3_5 + (if (u_2.1 = v2_5) then (1 : Int32) else (0 : Int32)))), (0, .ref a_o), (1, .int v1_5), (2, .int v2_5)]) hx hb dX7_countOf_30 hl (k := 4) rfl (congrArg (fun z => v4_5 + z) (by decide)) (by decide) rfl (fun ls hl => ?_)
          refine lv_goto (tgt := 5) hx hb dX7_countOf_33 (by decide) ?_
          exact ih (v3_5 + (if (u_2.1 = v2_5) then (1 : Int32) else (0 : Int32))) (v4_5 + (1 : Int32)) u_2.2.1 u_2.2.2 ls (lv_sub hl [2, 3, 4, 1, 0] rfl) H locs hP hS hr
        refine lv_icmp_ne (tgt := 27) hx hb dX7_countOf_20 (by decide) (fun c_5 => ?_) (fun c_5 => ?_)
        · refine lv_iconst (v := (0 : Int32)) hx hb dX7_countOf_27 (by decide) ?_
          exact hJ_3 _ (if_neg c_5).symm ls (lv_sub hl [0, 1, 2, 4] rfl)
        · refine lv_iconst (v := (1 : Int32)) hx hb dX7_countOf_23 (by decide) ?_
          refine lv_goto (tgt := 28) hx hb dX7_countOf_24 (by decide) ?_
          exact hJ_3 _ (if_pos c_5).symm ls (lv_sub hl [0, 1, 2, 4] rfl)
  refine hL5 p0 p1 _ (fun x3_5 xc_o_triangle_5 xc_o_takenBy_5 ls hl H locs hP hS hr => ?_) 5000 (0 : Int32) (0 : Int32) o_triangle o_takenBy ls (lv_sub hl [2, 3, 4, 1, 0] rfl) H locs hP hS hr
  refine lv_iload_n hx hb dX7_countOf_36 rfl (lv_at hl 0 rfl) ?_
  obtain rfl := Option.some.inj hr
  exact hret H locs _ hP hS (fun Qc free hq hf => W.iret hx hb hrt hq hf dX7_countOf_37 hlocks)
/-! X7_counted -/
def rmX7_counted : Room := { frames := 4, cells := 0, slots := 0, locals := 89 }
set_option maxHeartbeats 4000000 in
set_option maxRecDepth 100000 in
theorem k_X7_counted (l : Launch) (dC : Nat → ClassId) (dI : Nat → Nat → Nat) (cI cJ : ClassId) (a_o : Nat) (a_o_g : Nat) (a_o_kept : Nat) (a_o_was : Nat) (a_o_triangle : Nat) (a_o_text : Nat) (a_o_sort : Nat) (a_o_size : Nat) (a_o_items : Nat) (p0 : Int32) (p1 : Int32) (o_isKept : Int32) (o_takenBy : Int32) (o_fed : Int32) (o_place : Int32) (o_letter : Int32) (o_first : Int32) (o_second : Int32) (o_g : Nat → Int32) (o_triangle : Nat → Int32) (sz : Nat) (r : Int32 × (Nat → Int32) × Int32) (hr : f_X7_counted p0 p1 o_g o_triangle o_takenBy = some r) : Met l yX7_counted wsX7_counted rmX7_counted (va_Pc [.ref a_o, .int p0, .int p1] (pM (dC, dI) cI cJ [(a_o, .inr (6, [.ref a_o_g, .ref a_o_kept, .ref a_o_was, .int o_isKept, .ref a_o_triangle, .int o_takenBy, .ref a_o_text, .int o_fed, .int o_place, .int o_letter, .int o_first, .int o_second, .ref a_o_sort, .ref a_o_size, .ref a_o_items])), (a_o_g, .inl (cI, 64, .inl o_g)), (a_o_triangle, .inl (cI, 16384, .inl o_triangle))] sz)) (qM (some (.int r.1)) (dC, dI) [(a_o, .inr (6, [.ref a_o_g, .ref a_o_kept, .ref a_o_was, .int o_isKept, .ref a_o_triangle, .int r.2.2, .ref a_o_text, .int o_fed, .int o_place, .int o_letter, .int o_first, .int o_second, .ref a_o_sort, .ref a_o_size, .ref a_o_items])), (a_o_g, .inl (cI, 64, .inl o_g)), (a_o_triangle, .inl (cI, 16384, .inl r.2.1))] (va_A [(a_o, .inr (6, [.ref a_o_g, .ref a_o_kept, .ref a_o_was, .int o_isKept, .ref a_o_triangle, .int o_takenBy, .ref a_o_text, .int o_fed, .int o_place, .int o_letter, .int o_first, .int o_second, .ref a_o_sort, .ref a_o_size, .ref a_o_items])), (a_o_g, .inl (cI, 64, .inl o_g)), (a_o_triangle, .inl (cI, 16384, .inl o_triangle))] sz)) 0 0 (va_A [(a_o, .inr (6, [.ref a_o_g, .ref a_o_kept, .ref a_o_was, .int o_isKept, .ref a_o_triangle, .int o_takenBy, .ref a_o_text, .int o_fed, .int o_place, .int o_letter, .int o_first, .int o_second, .ref a_o_sort, .ref a_o_size, .ref a_o_items])), (a_o_g, .inl (cI, 64, .inl o_g)), (a_o_triangle, .inl (cI, 16384, .inl o_triangle))] sz) := by
  refine mu_of (cc := cX7_counted) (maxL := 3) (by decide) rfl (Nat.le_of_ble_eq_true rfl) ?_
  intro p e s m args below meth c Q ls A hx hb hml hown hts hE hP hD hA hrt hlocks hret hl
  have hK := hE.1
  have hS : va_S A s.heap s.heap [] := va_S.rf
  have hl : lv_has ls 3 [(0, .ref a_o), (1, .int p0), (2, .int p1)] := hl
  unfold f_X7_counted at hr
  obtain ⟨H, hHe⟩ : ∃ H, H = s.heap := ⟨_, rfl⟩
  obtain ⟨locs, hLe⟩ : ∃ locs : List Loc, locs = [] := ⟨_, rfl⟩
  suffices hgo : va_P (dC, dI) vwCl [(a_o, .inr (6, [.ref a_o_g, .ref a_o_kept, .ref a_o_was, .int o_isKept, .ref a_o_triangle, .int o_takenBy, .ref a_o_text, .int o_fed, .int o_place, .int o_letter, .int o_first, .int o_second, .ref a_o_sort, .ref a_o_size, .ref a_o_items])), (a_o_g, .inl (cI, 64, .inl o_g)), (a_o_triangle, .inl (cI, 16384, .inl o_triangle))] H → va_S A s.heap H locs → W p l e rmX7_counted s m args below meth c H locs 0 0 Q (F0 m 0 ls []) by
    subst hHe; subst hLe; exact hgo hP hS
  clear hP hS hHe hLe
  intro hP hS
  have iX7 : ∀ w ∈ wsX70, w ∈ wsX7_counted := memr_ (big := wsX7_counted) wsX70 [31, 32, 33, 34, 35, 36, 37, 38, 39, 40, 41, 42, 43, 44, 45] (by decide +kernel)
  refine lv_iload_n hx hb dX7_counted_0 rfl (lv_at hl 1 rfl) ?_
  refine ro_S ⟨hx, hb, hml, hown, hts⟩ (k_X7_isRow l dC dI cI cJ p0) (va_cwS 1 hts gX7_counted_X7_isRow rfl rfl rfl (by decide +kernel) ⟨Nat.le_of_ble_eq_true rfl, Nat.le_of_ble_eq_true rfl⟩) hE (hP.sub [] rfl) rfl hl.1 rfl (Nat.le_of_ble_eq_true rfl) dX7_counted_1 ⟨Nat.zero_le _, Nat.zero_le _⟩ ?_
  refine lv_if_eq (tgt := 16) hx hb dX7_counted_4 (by decide) (fun c_1 => ?_) (fun c_1 => ?_)
  · have hr := ite_p hr c_1
    refine lv_iconst (v := (-1 : Int32)) hx hb dX7_counted_16 (by decide) ?_
    obtain rfl := Option.some.inj hr
    exact hret H locs _ hP hS (fun Qc free hq hf => W.iret hx hb hrt hq hf dX7_counted_17 hlocks)
  · have hr := ite_n hr c_1
    refine lv_aload_n hx hb dX7_counted_7 rfl (lv_at hl 0 rfl) ?_
    refine lv_iload_n hx hb dX7_counted_8 rfl (lv_at hl 1 rfl) ?_
    refine lv_iload_n hx hb dX7_counted_9 rfl (lv_at hl 2 rfl) ?_
    obtain ⟨u_2, hu_2, hr⟩ := bd_e hr
    refine mu_V ⟨hx, hb, hml, hown, hts⟩ (k_X7_countOf l dC dI cI cJ a_o a_o_g a_o_kept a_o_was a_o_triangle a_o_text a_o_sort a_o_size a_o_items p0 p1 o_isKept o_takenBy o_fed o_place o_letter o_first o_second o_g o_triangle H.size u_2 hu_2) (cwV 2 hts gX7_counted_X7_countOf rfl rfl rfl (by decide +kernel) ⟨Nat.le_of_ble_eq_true rfl, Nat.le_of_ble_eq_true rfl⟩) hE 0 rfl rfl rfl rfl hl.1 rfl (Nat.le_of_ble_eq_true rfl) dX7_counted_10 ⟨Nat.zero_le _, Nat.zero_le _⟩ hP (hD.fst rfl) hS hA [0, 1, 2] [] [0, 1, 2] rfl rfl (by decide) (by decide) rfl (by decide) (W1 := [(a_o, .inr (6, [.ref a_o_g, .ref a_o_kept, .ref a_o_was, .int o_isKept, .ref a_o_triangle, .int u_2.2.2, .ref a_o_text, .int o_fed, .int o_place, .int o_letter, .int o_first, .int o_second, .ref a_o_sort, .ref a_o_size, .ref a_o_items])), (a_o_g, .inl (cI, 64, .inl o_g)), (a_o_triangle, .inl (cI, 16384, .inl u_2.2.1))]) rfl (fun H locs hP hS => W.eq (g2 := F0 m 13 ls [.int u_2.1]) rfl ?_)
    refine lv_goto (tgt := 17) hx hb dX7_counted_13 (by decide) ?_
    obtain rfl := Option.some.inj hr
    exact hret H locs _ hP hS (fun Qc free hq hf => W.iret hx hb hrt hq hf dX7_counted_17 hlocks)
/-! X7_sumOf -/
def rmX7_sumOf : Room := { frames := 3, cells := 0, slots := 0, locals := 65 }
set_option maxHeartbeats 4000000 in
set_option maxRecDepth 100000 in
theorem k_X7_sumOf (l : Launch) (dC : Nat → ClassId) (dI : Nat → Nat → Nat) (cI cJ : ClassId) (a_o : Nat) (a_o_g : Nat) (a_o_kept : Nat) (a_o_was : Nat) (a_o_triangle : Nat) (a_o_text : Nat) (a_o_sort : Nat) (a_o_size : Nat) (a_o_items : Nat) (p0 : Int32) (o_isKept : Int32) (o_takenBy : Int32) (o_fed : Int32) (o_place : Int32) (o_letter : Int32) (o_first : Int32) (o_second : Int32) (o_g : Nat → Int32) (o_triangle : Nat → Int32) (sz : Nat) (r : Int32 × (Nat → Int32) × Int32) (hr : f_X7_sumOf p0 o_g o_triangle o_takenBy = some r) : Met l yX7_sumOf wsX7_sumOf rmX7_sumOf (va_Pc [.ref a_o, .int p0] (pM (dC, dI) cI cJ [(a_o, .inr (6, [.ref a_o_g, .ref a_o_kept, .ref a_o_was, .int o_isKept, .ref a_o_triangle, .int o_takenBy, .ref a_o_text, .int o_fed, .int o_place, .int o_letter, .int o_first, .int o_second, .ref a_o_sort, .ref a_o_size, .ref a_o_items])), (a_o_g, .inl (cI, 64, .inl o_g)), (a_o_triangle, .inl (cI, 16384, .inl o_triangle))] sz)) (qM (some (.int r.1)) (dC, dI) [(a_o, .inr (6, [.ref a_o_g, .ref a_o_kept, .ref a_o_was, .int o_isKept, .ref a_o_triangle, .int r.2.2, .ref a_o_text, .int o_fed, .int o_place, .int o_letter, .int o_first, .int o_second, .ref a_o_sort, .ref a_o_size, .ref a_o_items])), (a_o_g, .inl (cI, 64, .inl o_g)), (a_o_triangle, .inl (cI, 16384, .inl r.2.1))] (va_A [(a_o, .inr (6, [.ref a_o_g, .ref a_o_kept, .ref a_o_was, .int o_isKept, .ref a_o_triangle, .int o_takenBy, .ref a_o_text, .int o_fed, .int o_place, .int o_letter, .int o_first, .int o_second, .ref a_o_sort, .ref a_o_size, .ref a_o_items])), (a_o_g, .inl (cI, 64, .inl o_g)), (a_o_triangle, .inl (cI, 16384, .inl o_triangle))] sz)) 0 0 (va_A [(a_o, .inr (6, [.ref a_o_g, .ref a_o_kept, .ref a_o_was, .int o_isKept, .ref a_o_triangle, .int o_takenBy, .ref a_o_text, .int o_fed, .int o_place, .int o_letter, .int o_first, .int o_second, .ref a_o_sort, .ref a_o_size, .ref a_o_items])), (a_o_g, .inl (cI, 64, .inl o_g)), (a_o_triangle, .inl (cI, 16384, .inl o_triangle))] sz) := by
  refine mu_of (cc := cX7_sumOf) (maxL := 4) (by decide) rfl (Nat.le_of_ble_eq_true rfl) ?_
  intro p e s m args below meth c Q ls A hx hb hml hown hts hE hP hD hA hrt hlocks hret hl
  have hK := hE.1
  have hS : va_S A s.heap s.heap [] := va_S.rf
  have hl : lv_has ls 4 [(0, .ref a_o), (1, .int p0)] := hl
  unfold f_X7_sumOf at hr
  obtain ⟨H, hHe⟩ : ∃ H, H = s.heap := ⟨_, rfl⟩
  obtain ⟨locs, hLe⟩ : ∃ locs : List Loc, locs = [] := ⟨_, rfl⟩
  suffices hgo : va_P (dC, dI) vwCl [(a_o, .inr (6, [.ref a_o_g, .ref a_o_kept, .ref a_o_was, .int o_isKept, .ref a_o_triangle, .int o_takenBy, .ref a_o_text, .int o_fed, .int o_place, .int o_letter, .int o_first, .int o_second, .ref a_o_sort, .ref a_o_size, .ref a_o_items])), (a_o_g, .inl (cI, 64, .inl o_g)), (a_o_triangle, .inl (cI, 16384, .inl o_triangle))] H → va_S A s.heap H locs → W p l e rmX7_sumOf s m args below meth c H locs 0 0 Q (F0 m 0 ls []) by
    subst hHe; subst hLe; exact hgo hP hS
  clear hP hS hHe hLe
  intro hP hS
  have iX7 : ∀ w ∈ wsX70, w ∈ wsX7_sumOf := memr_ (big := wsX7_sumOf) wsX70 [24, 25, 26, 27, 28, 29, 30, 31, 32, 33, 34, 35, 36, 37, 38] (by decide +kernel)
  refine lv_iconst (v := (0 : Int32)) hx hb dX7_sumOf_0 (by decide) ?_
  refine lv_istore_n (lv' := [(2, .int (0 : Int32)), (0, .ref a_o), (1, .int p0)]) hx hb dX7_sumOf_1 rfl hl (by decide) rfl (fun ls hl => ?_)
  refine lv_iconst (v := (0 : Int32)) hx hb dX7_sumOf_2 (by decide) ?_
  refine lv_istore_n (lv' := [(3, .int (0 : Int32)), (2, .int (0 : Int32)), (0, .ref a_o), (1, .int p0)]) hx hb dX7_sumOf_3 rfl hl (by decide) rfl (fun ls hl => ?_)
  have hL4 : ∀ (v1_4 : Int32) (k_4 : Int32 → (Nat → Int32) → (Int32) → Option (Int32 × (Nat → Int32) × Int32)) (hk : ∀ (x2_4 : Int32) (xc_o_triangle_4 : Nat → Int32) (xc_o_takenBy_4 : Int32) (ls : Array Slot), lv_has ls 4 [(2, .int x2_4)] → ∀ (H : Heap) (locs : List Loc), va_P (dC, dI) vwCl [(a_o, .inr (6, [.ref a_o_g, .ref a_o_kept, .ref a_o_was, .int o_isKept, .ref a_o_triangle, .int xc_o_takenBy_4, .ref a_o_text, .int o_fed, .int o_place, .int o_letter, .int o_first, .int o_second, .ref a_o_sort, .ref a_o_size, .ref a_o_items])), (a_o_g, .inl (cI, 64, .inl o_g)), (a_o_triangle, .inl (cI, 16384, .inl xc_o_triangle_4))] H → va_S A s.heap H locs →  k_4 x2_4 xc_o_triangle_4 xc_o_takenBy_4 = some r → W p l e rmX7_sumOf s m args below meth c H locs 0 0 Q (F0 m 24 ls [])) (fuel : Nat) (v2_4 : Int32) (v3_4 : Int32) (o_triangle_4 : Nat → Int32) (o_takenBy_4 : Int32) (ls : Array Slot), lv_has ls 4 [(0, .ref a_o), (1, .int v1_4), (2, .int v2_4), (3, .int v3_4)] → ∀ (H : Heap) (locs : List Loc), va_P (dC, dI) vwCl [(a_o, .inr (6, [.ref a_o_g, .ref a_o_kept, .ref a_o_was, .int o_isKept, .ref a_o_triangle, .int o_takenBy_4, .ref a_o_text, .int o_fed, .int o_place, .int o_letter, .int o_first, .int o_second, .ref a_o_sort, .ref a_o_size, .ref a_o_items])), (a_o_g, .inl (cI, 64, .inl o_g)), (a_o_triangle, .inl (cI, 16384, .inl o_triangle_4))] H → va_S A s.heap H locs → f_X7_sumOf_L4 k_4 v1_4 o_g fuel v2_4 v3_4 o_triangle_4 o_takenBy_4 = some r → W p l e rmX7_sumOf s m args below meth c H locs 0 0 Q (F0 m 4 ls []) := by
    intro v1_4 k_4 hk fuel
    induction fuel with
    | zero =>
      intro v2_4 v3_4 o_triangle_4 o_takenBy_4 ls hl H locs hP hS hr
      rw [f_X7_sumOf_L4_z] at hr
      cases hr
    | succ fuel ih =>
      intro v2_4 v3_4 o_triangle_4 o_takenBy_4 ls hl H locs hP hS hr
      rw [f_X7_sumOf_L4_s] at hr
      refine lv_iload_n hx hb dX7_sumOf_4 rfl (lv_at hl 3 rfl) ?_
      refine lv_iload_n hx hb dX7_sumOf_5 rfl (lv_at hl 1 rfl) ?_
      refine lv_icmp_gt (tgt := 24) hx hb dX7_sumOf_6 (by decide) (fun c_1 => ?_) (fun c_1 => ?_)
      · have hr := ite_p hr c_1
        exact hk v2_4 o_triangle_4 o_takenBy_4 ls (lv_sub hl [2] rfl) H locs hP hS hr
      · have hr := ite_n hr c_1
        refine lv_iload_n hx hb dX7_sumOf_9 rfl (lv_at hl 2 rfl) ?_
        refine lv_aload_n hx hb dX7_sumOf_10 rfl (lv_at hl 0 rfl) ?_
        refine lv_iload_n hx hb dX7_sumOf_11 rfl (lv_at hl 1 rfl) ?_
        refine lv_iload_n hx hb dX7_sumOf_12 rfl (lv_at hl 3 rfl) ?_
        obtain ⟨u_2, hu_2, hr⟩ := bd_e hr
        refine mu_V ⟨hx, hb, hml, hown, hts⟩ (k_X7_remainder l dC dI cI cJ a_o a_o_g a_o_kept a_o_was a_o_triangle a_o_text a_o_sort a_o_size a_o_items v1_4 v3_4 o_isKept o_takenBy_4 o_fed o_place o_letter o_first o_second o_g o_triangle_4 H.size u_2 hu_2) (cwV 2 hts gX7_sumOf_X7_remainder rfl rfl rfl (by decide +kernel) ⟨Nat.le_of_ble_eq_true rfl, Nat.le_of_ble_eq_true rfl⟩) hE 0 rfl rfl rfl rfl hl.1 rfl (Nat.le_of_ble_eq_true rfl) dX7_sumOf_13 ⟨Nat.zero_le _, Nat.zero_le _⟩ hP (hD.fst rfl) hS hA [0, 1, 2] [] [0, 1, 2] rfl rfl (by decide) (by decide) rfl (by decide) (W1 := [(a_o, .inr (6, [.ref a_o_g, .ref a_o_kept, .ref a_o_was, .int o_isKept, .ref a_o_triangle, .int u_2.2.2, .ref a_o_text, .int o_fed, .int o_place, .int o_letter, .int o_first, .int o_second, .ref a_o_sort, .ref a_o_size, .ref a_o_items])), (a_o_g, .inl (cI, 64, .inl o_g)), (a_o_triangle, .inl (cI, 16384, .inl u_2.2.1))]) rfl (fun H locs hP hS => W.eq (g2 := F0 m 16 ls [.int u_2.1, .int v2_4]) rfl ?_)
        refine lv_iadd hx hb dX7_sumOf_16 ?_
        refine lv_istore_n (lv' := [(2, .int (v2_4 + u_2.1)), (0, .ref a_o), (1, .int v1_4), (3, .int v3_4)]) hx hb dX7_sumOf_17 rfl hl (by decide) rfl (fun ls hl => ?_)
        refine lv_iinc (v := (v3_4 + (1 : Int32))) (lv' := [(3, .int (v3_4 + (1 : Int32))), (2, .int (v2_4 + u_2.1)), (0, .ref a_o), (1, .int v1_4)]) hx hb dX7_sumOf_18 hl (k := 3) rfl (congrArg (fun z => v3_4 + z) (by decide)) (by decide) rfl (fun ls hl => ?_)
        refine lv_goto (tgt := 4) hx hb dX7_sumOf_21 (by decide) ?_
        exact ih (v2_4 + u_2.1) (v3_4 + (1 : Int32)) u_2.2.1 u_2.2.2 ls (lv_sub hl [2, 3, 1, 0] rfl) H locs hP hS hr
  refine hL4 p0 _ (fun x2_4 xc_o_triangle_4 xc_o_takenBy_4 ls hl H locs hP hS hr => ?_) 5000 (0 : Int32) (0 : Int32) o_triangle o_takenBy ls (lv_sub hl [2, 3, 1, 0] rfl) H locs hP hS hr
  refine lv_iload_n hx hb dX7_sumOf_24 rfl (lv_at hl 0 rfl) ?_
  obtain rfl := Option.some.inj hr
  exact hret H locs _ hP hS (fun Qc free hq hf => W.iret hx hb hrt hq hf dX7_sumOf_25 hlocks)
/-! X7_row -/
def rmX7_row : Room := { frames := 4, cells := 0, slots := 0, locals := 89 }
set_option maxHeartbeats 4000000 in
set_option maxRecDepth 100000 in
theorem k_X7_row (l : Launch) (dC : Nat → ClassId) (dI : Nat → Nat → Nat) (cI cJ : ClassId) (a_o : Nat) (a_o_g : Nat) (a_o_kept : Nat) (a_o_was : Nat) (a_o_triangle : Nat) (a_o_text : Nat) (a_o_sort : Nat) (a_o_size : Nat) (a_o_items : Nat) (p0 : Int32) (p1 : Int32) (o_isKept : Int32) (o_takenBy : Int32) (o_fed : Int32) (o_place : Int32) (o_letter : Int32) (o_first : Int32) (o_second : Int32) (o_g : Nat → Int32) (o_triangle : Nat → Int32) (sz : Nat) (r : Int32 × (Nat → Int32) × Int32) (hr : f_X7_row p0 p1 o_g o_triangle o_takenBy = some r) : Met l yX7_row wsX7_row rmX7_row (va_Pc [.ref a_o, .int p0, .int p1] (pM (dC, dI) cI cJ [(a_o, .inr (6, [.ref a_o_g, .ref a_o_kept, .ref a_o_was, .int o_isKept, .ref a_o_triangle, .int o_takenBy, .ref a_o_text, .int o_fed, .int o_place, .int o_letter, .int o_first, .int o_second, .ref a_o_sort, .ref a_o_size, .ref a_o_items])), (a_o_g, .inl (cI, 64, .inl o_g)), (a_o_triangle, .inl (cI, 16384, .inl o_triangle))] sz)) (qM (some (.int r.1)) (dC, dI) [(a_o, .inr (6, [.ref a_o_g, .ref a_o_kept, .ref a_o_was, .int o_isKept, .ref a_o_triangle, .int r.2.2, .ref a_o_text, .int o_fed, .int o_place, .int o_letter, .int o_first, .int o_second, .ref a_o_sort, .ref a_o_size, .ref a_o_items])), (a_o_g, .inl (cI, 64, .inl o_g)), (a_o_triangle, .inl (cI, 16384, .inl r.2.1))] (va_A [(a_o, .inr (6, [.ref a_o_g, .ref a_o_kept, .ref a_o_was, .int o_isKept, .ref a_o_triangle, .int o_takenBy, .ref a_o_text, .int o_fed, .int o_place, .int o_letter, .int o_first, .int o_second, .ref a_o_sort, .ref a_o_size, .ref a_o_items])), (a_o_g, .inl (cI, 64, .inl o_g)), (a_o_triangle, .inl (cI, 16384, .inl o_triangle))] sz)) 0 0 (va_A [(a_o, .inr (6, [.ref a_o_g, .ref a_o_kept, .ref a_o_was, .int o_isKept, .ref a_o_triangle, .int o_takenBy, .ref a_o_text, .int o_fed, .int o_place, .int o_letter, .int o_first, .int o_second, .ref a_o_sort, .ref a_o_size, .ref a_o_items])), (a_o_g, .inl (cI, 64, .inl o_g)), (a_o_triangle, .inl (cI, 16384, .inl o_triangle))] sz) := by
  refine mu_of (cc := cX7_row) (maxL := 9) (by decide) rfl (Nat.le_of_ble_eq_true rfl) ?_
  intro p e s m args below meth c Q ls A hx hb hml hown hts hE hP hD hA hrt hlocks hret hl
  have hK := hE.1
  have hS : va_S A s.heap s.heap [] := va_S.rf
  have hl : lv_has ls 9 [(0, .ref a_o), (1, .int p0), (2, .int p1)] := hl
  unfold f_X7_row at hr
  obtain ⟨H, hHe⟩ : ∃ H, H = s.heap := ⟨_, rfl⟩
  obtain ⟨locs, hLe⟩ : ∃ locs : List Loc, locs = [] := ⟨_, rfl⟩
  suffices hgo : va_P (dC, dI) vwCl [(a_o, .inr (6, [.ref a_o_g, .ref a_o_kept, .ref a_o_was, .int o_isKept, .ref a_o_triangle, .int o_takenBy, .ref a_o_text, .int o_fed, .int o_place, .int o_letter, .int o_first, .int o_second, .ref a_o_sort, .ref a_o_size, .ref a_o_items])), (a_o_g, .inl (cI, 64, .inl o_g)), (a_o_triangle, .inl (cI, 16384, .inl o_triangle))] H → va_S A s.heap H locs → W p l e rmX7_row s m args below meth c H locs 0 0 Q (F0 m 0 ls []) by
    subst hHe; subst hLe; exact hgo hP hS
  clear hP hS hHe hLe
  intro hP hS
  have iX7 : ∀ w ∈ wsX70, w ∈ wsX7_row := memr_ (big := wsX7_row) wsX70 [44, 45, 46, 47, 48, 49, 50, 51, 52, 53, 54, 55, 56, 57, 58] (by decide +kernel)
  refine lv_iload_n hx hb dX7_row_0 rfl (lv_at hl 1 rfl) ?_
  refine ro_S ⟨hx, hb, hml, hown, hts⟩ (k_X7_isRow l dC dI cI cJ p0) (va_cwS 1 hts gX7_row_X7_isRow rfl rfl rfl (by decide +kernel) ⟨Nat.le_of_ble_eq_true rfl, Nat.le_of_ble_eq_true rfl⟩) hE (hP.sub [] rfl) rfl hl.1 rfl (Nat.le_of_ble_eq_true rfl) dX7_row_1 ⟨Nat.zero_le _, Nat.zero_le _⟩ ?_
  have tT_2 : (((f_X7_isRow p0) = 0) ∨ ((f_X7_isIn (Int32.toInt64 p1) (0 : Int64) (3 : Int64)) = 0)) → W p l e rmX7_row s m args below meth c H locs 0 0 Q (F0 m 19 ls []) := by
    intro hc_1
    have hr := ite_p hr hc_1
    refine lv_iconst (v := (-1 : Int32)) hx hb dX7_row_19 (by decide) ?_
    obtain rfl := Option.some.inj hr
    exact hret H locs _ hP hS (fun Qc free hq hf => W.iret hx hb hrt hq hf dX7_row_20 hlocks)
  have tF_3 : ¬ (((f_X7_isRow p0) = 0) ∨ ((f_X7_isIn (Int32.toInt64 p1) (0 : Int64) (3 : Int64)) = 0)) → W p l e rmX7_row s m args below meth c H locs 0 0 Q (F0 m 21 ls []) := by
    intro hc_1
    have hr := ite_n hr hc_1
    refine lv_iload_n hx hb dX7_row_21 rfl (lv_at hl 2 rfl) ?_
    refine lv_iconst (v := (2 : Int32)) hx hb dX7_row_22 (by decide) ?_
    refine lv_icmp_ne (tgt := 32) hx hb dX7_row_23 (by decide) (fun c_4 => ?_) (fun c_4 => ?_)
    · have hr := ite_n hr c_4
      refine lv_iconst (v := (0 : Int32)) hx hb dX7_row_32 (by decide) ?_
      refine lv_istore_n (lv' := [(3, .int (0 : Int32)), (0, .ref a_o), (1, .int p0), (2, .int p1)]) hx hb dX7_row_33 rfl hl (by decide) rfl (fun ls hl => ?_)
      refine lv_iconst (v := (0 : Int32)) hx hb dX7_row_34 (by decide) ?_
      refine lv_istore (lv' := [(4, .int (0 : Int32)), (3, .int (0 : Int32)), (0, .ref a_o), (1, .int p0), (2, .int p1)]) hx hb dX7_row_35 hl (by decide) rfl (fun ls hl => ?_)
      refine lv_iconst (v := (0 : Int32)) hx hb dX7_row_37 (by decide) ?_
      refine lv_istore (lv' := [(5, .int (0 : Int32)), (4, .int (0 : Int32)), (3, .int (0 : Int32)), (0, .ref a_o), (1, .int p0), (2, .int p1)]) hx hb dX7_row_38 hl (by decide) rfl (fun ls hl => ?_)
      refine lv_iconst (v := (0 : Int32)) hx hb dX7_row_40 (by decide) ?_
      refine lv_istore (lv' := [(6, .int (0 : Int32)), (5, .int (0 : Int32)), (4, .int (0 : Int32)), (3, .int (0 : Int32)), (0, .ref a_o), (1, .int p0), (2, .int p1)]) hx hb dX7_row_41 hl (by decide) rfl (fun ls hl => ?_)
      refine lv_iconst (v := (0 : Int32)) hx hb dX7_row_43 (by decide) ?_
      refine lv_istore (lv' := [(7, .int (0 : Int32)), (6, .int (0 : Int32)), (5, .int (0 : Int32)), (4, .int (0 : Int32)), (3, .int (0 : Int32)), (0, .ref a_o), (1, .int p0), (2, .int p1)]) hx hb dX7_row_44 hl (by decide) rfl (fun ls hl => ?_)
      have hL46 : ∀ (v1_46 : Int32) (v2_46 : Int32) (v6_46 : Int32) (k_46 : Int32 → Int32 → (Nat → Int32) → (Int32) → Option (Int32 × (Nat → Int32) × Int32)) (hk : ∀ (x3_46 : Int32) (x4_46 : Int32) (xc_o_triangle_46 : Nat → Int32) (xc_o_takenBy_46 : Int32) (ls : Array Slot), lv_has ls 9 [(0, .ref a_o), (1, .int v1_46), (2, .int v2_46), (3, .int x3_46), (4, .int x4_46), (6, .int v6_46)] → ∀ (H : Heap) (locs : List Loc), va_P (dC, dI) vwCl [(a_o, .inr (6, [.ref a_o_g, .ref a_o_kept, .ref a_o_was, .int o_isKept, .ref a_o_triangle, .int xc_o_takenBy_46, .ref a_o_text, .int o_fed, .int o_place, .int o_letter, .int o_first, .int o_second, .ref a_o_sort, .ref a_o_size, .ref a_o_items])), (a_o_g, .inl (cI, 64, .inl o_g)), (a_o_triangle, .inl (cI, 16384, .inl xc_o_triangle_46))] H → va_S A s.heap H locs →  k_46 x3_46 x4_46 xc_o_triangle_46 xc_o_takenBy_46 = some r → W p l e rmX7_row s m args below meth c H locs 0 0 Q (F0 m 113 ls [])) (fuel : Nat) (v3_46 : Int32) (v4_46 : Int32) (v5_46 : Int32) (v7_46 : Int32) (o_triangle_46 : Nat → Int32) (o_takenBy_46 : Int32) (ls : Array Slot), lv_has ls 9 [(0, .ref a_o), (1, .int v1_46), (2, .int v2_46), (3, .int v3_46), (4, .int v4_46), (5, .int v5_46), (6, .int v6_46), (7, .int v7_46)] → ∀ (H : Heap) (locs : List Loc), va_P (dC, dI) vwCl [(a_o, .inr (6, [.ref a_o_g, .ref a_o_kept, .ref a_o_was, .int o_isKept, .ref a_o_triangle, .int o_takenBy_46, .ref a_o_text, .int o_fed, .int o_place, .int o_letter, .int o_first, .int o_second, .ref a_o_sort, .ref a_o_size, .ref a_o_items])), (a_o_g, .inl (cI, 64, .inl o_g)), (a_o_triangle, .inl (cI, 16384, .inl o_triangle_46))] H → va_S A s.heap H locs → f_X7_row_L46 k_46 v1_46 v2_46 o_g fuel v3_46 v4_46 v5_46 v7_46 o_triangle_46 o_takenBy_46 = some r → W p l e rmX7_row s m args below meth c H locs 0 0 Q (F0 m 46 ls []) := by
        intro v1_46 v2_46 v6_46 k_46 hk fuel
        induction fuel with
        | zero =>
          intro v3_46 v4_46 v5_46 v7_46 o_triangle_46 o_takenBy_46 ls hl H locs hP hS hr
          rw [f_X7_row_L46_z] at hr
          cases hr
        | succ fuel ih =>
          intro v3_46 v4_46 v5_46 v7_46 o_triangle_46 o_takenBy_46 ls hl H locs hP hS hr
          rw [f_X7_row_L46_s] at hr
          refine lv_iload hx hb dX7_row_46 (lv_at hl 7 rfl) ?_
          refine lv_aload_n hx hb dX7_row_48 rfl (lv_at hl 0 rfl) ?_
          obtain ⟨u_5, hu_5, hr⟩ := bd_e hr
          refine ro_V ⟨hx, hb, hml, hown, hts⟩ (k_X7_modulus l dC dI cI cJ a_o a_o_g a_o_kept a_o_was a_o_triangle a_o_text a_o_sort a_o_size a_o_items o_isKept o_takenBy_46 o_fed o_place o_letter o_first o_second o_g u_5 hu_5) (cwV 0 hts gX7_row_X7_modulus rfl rfl rfl (by decide +kernel) ⟨Nat.le_of_ble_eq_true rfl, Nat.le_of_ble_eq_true rfl⟩) hE hP 0 rfl rfl rfl (hP.sub [0, 1] rfl) rfl hl.1 rfl (Nat.le_of_ble_eq_true rfl) dX7_row_49 ⟨Nat.zero_le _, Nat.zero_le _⟩ ?_
          have tT_7 : ((¬ (u_5 ≤ v7_46)) ∧ (¬ ((2 : Int32) ≤ v2_46))) → W p l e rmX7_row s m args below meth c H locs 0 0 Q (F0 m 60 ls []) := by
            intro hc_6
            have hr := ite_p hr hc_6
            refine lv_aload_n hx hb dX7_row_60 rfl (lv_at hl 0 rfl) ?_
            refine lv_iload_n hx hb dX7_row_61 rfl (lv_at hl 1 rfl) ?_
            refine lv_iload hx hb dX7_row_62 (lv_at hl 7 rfl) ?_
            obtain ⟨u_8, hu_8, hr⟩ := bd_e hr
            refine mu_V ⟨hx, hb, hml, hown, hts⟩ (k_X7_countOf l dC dI cI cJ a_o a_o_g a_o_kept a_o_was a_o_triangle a_o_text a_o_sort a_o_size a_o_items v1_46 v7_46 o_isKept o_takenBy_46 o_fed o_place o_letter o_first o_second o_g o_triangle_46 H.size u_8 hu_8) (cwV 2 hts gX7_row_X7_countOf rfl rfl rfl (by decide +kernel) ⟨Nat.le_of_ble_eq_true rfl, Nat.le_of_ble_eq_true rfl⟩) hE 0 rfl rfl rfl rfl hl.1 rfl (Nat.le_of_ble_eq_true rfl) dX7_row_64 ⟨Nat.zero_le _, Nat.zero_le _⟩ hP (hD.fst rfl) hS hA [0, 1, 2] [] [0, 1, 2] rfl rfl (by decide) (by decide) rfl (by decide) (W1 := [(a_o, .inr (6, [.ref a_o_g, .ref a_o_kept, .ref a_o_was, .int o_isKept, .ref a_o_triangle, .int u_8.2.2, .ref a_o_text, .int o_fed, .int o_place, .int o_letter, .int o_first, .int o_second, .ref a_o_sort, .ref a_o_size, .ref a_o_items])), (a_o_g, .inl (cI, 64, .inl o_g)), (a_o_triangle, .inl (cI, 16384, .inl u_8.2.1))]) rfl (fun H locs hP hS => W.eq (g2 := F0 m 67 ls [.int u_8.1]) rfl ?_)
            refine lv_istore (lv' := [(8, .int u_8.1), (0, .ref a_o), (1, .int v1_46), (2, .int v2_46), (3, .int v3_46), (4, .int v4_46), (5, .int v5_46), (6, .int v6_46), (7, .int v7_46)]) hx hb dX7_row_67 hl (by decide) rfl (fun ls hl => ?_)
            refine lv_iload_n hx hb dX7_row_69 rfl (lv_at hl 4 rfl) ?_
            refine lv_iload hx hb dX7_row_70 (lv_at hl 0 rfl) ?_
            have hJ_9 : ∀ (y_10 : Int32) (ey_10 : y_10 = (if (¬ (u_8.1 ≤ 0)) then (1 : Int32) else (0 : Int32))) (ls : Array Slot), lv_has ls 9 [(0, .ref a_o), (1, .int v1_46), (2, .int v2_46), (4, .int v4_46), (5, .int v5_46), (6, .int v6_46), (7, .int v7_46), (8, .int u_8.1)] → W p l e rmX7_row s m args below meth c H locs 0 0 Q (F0 m 80 ls [.int y_10, .int v3_46]) := by
              intro y_10 ey_10 ls hl
              subst ey_10
              refine lv_iadd hx hb dX7_row_80 ?_
              refine lv_istore_n (lv' := [(3, .int (v3_46 + (if (¬ (u_8.1 ≤ 0)) then (1 : Int32) else (0 : Int32)))), (0, .ref a_o), (1, .int v1_46), (2, .int v2_46), (4, .int v4_46), (5, .int v5_46), (6, .int v6_46), (7, .int v7_46), (8, .int u_8.1)]) hx hb dX7_row_81 rfl hl (by decide) rfl (fun ls hl => ?_)
              refine lv_iload hx hb dX7_row_82 (lv_at hl 8 rfl) ?_
              refine lv_iload hx hb dX7_row_84 (lv_at hl 5 rfl) ?_
              have hJ_11 : ∀ (y_12 : Int32) (ey_12 : y_12 = (if (u_8.1 ≤ v5_46) then v4_46 else v7_46)) (ls : Array Slot), lv_has ls 9 [(0, .ref a_o), (1, .int v1_46), (2, .int v2_46), (3, .int (v3_46 + (if (¬ (u_8.1 ≤ 0)) then (1 : Int32) else (0 : Int32)))), (5, .int v5_46), (6, .int v6_46), (7, .int v7_46), (8, .int u_8.1)] → W p l e rmX7_row s m args below meth c H locs 0 0 Q (F0 m 96 ls [.int y_12]) := by
                intro y_12 ey_12 ls hl
                subst ey_12
                refine lv_istore (lv' := [(4, .int (if (u_8.1 ≤ v5_46) then v4_46 else v7_46)), (0, .ref a_o), (1, .int v1_46), (2, .int v2_46), (3, .int (v3_46 + (if (¬ (u_8.1 ≤ 0)) then (1 : Int32) else (0 : Int32)))), (5, .int v5_46), (6, .int v6_46), (7, .int v7_46), (8, .int u_8.1)]) hx hb dX7_row_96 hl (by decide) rfl (fun ls hl => ?_)
                refine lv_iload hx hb dX7_row_98 (lv_at hl 5 rfl) ?_
                refine lv_iload hx hb dX7_row_100 (lv_at hl 8 rfl) ?_
                refine va_mmax hx hb (hml.trans hl.1.symm) hown (hts (.methodLink RX7 165 Lib.Math.max.name) (List.mem_of_getElem? (i := 2) rfl)) (hts (.static Lib.Math.max.name) (List.mem_of_getElem? (i := 3) rfl)) (hts (.initialized "java/lang/Math") (List.mem_of_getElem? (i := 4) rfl)) (hts (.code Lib.Math.max.name Lib.Math.max.code 2 (some .int)) (List.mem_of_getElem? (i := 5) rfl)) (Nat.le_of_ble_eq_true rfl) (Nat.le_of_ble_eq_true rfl) (Nat.zero_le _) (Nat.zero_le _) dX7_row_102 ?_
                refine lv_istore (lv' := [(5, .int (if v5_46 < u_8.1 then u_8.1 else v5_46)), (4, .int (if (u_8.1 ≤ v5_46) then v4_46 else v7_46)), (0, .ref a_o), (1, .int v1_46), (2, .int v2_46), (3, .int (v3_46 + (if (¬ (u_8.1 ≤ 0)) then (1 : Int32) else (0 : Int32)))), (6, .int v6_46), (7, .int v7_46), (8, .int u_8.1)]) hx hb dX7_row_105 hl (by decide) rfl (fun ls hl => ?_)
                refine lv_iinc (v := (v7_46 + (1 : Int32))) (lv' := [(7, .int (v7_46 + (1 : Int32))), (5, .int (if v5_46 < u_8.1 then u_8.1 else v5_46)), (4, .int (if (u_8.1 ≤ v5_46) then v4_46 else v7_46)), (0, .ref a_o), (1, .int v1_46), (2, .int v2_46), (3, .int (v3_46 + (if (¬ (u_8.1 ≤ 0)) then (1 : Int32) else (0 : Int32)))), (6, .int v6_46), (8, .int u_8.1)]) hx hb dX7_row_107 hl (k := 7) rfl (congrArg (fun z => v7_46 + z) (by decide)) (by decide) rfl (fun ls hl => ?_)
                refine lv_goto (tgt := 46) hx hb dX7_row_110 (by decide) ?_
                exact ih (v3_46 + (if (¬ (u_8.1 ≤ 0)) then (1 : Int32) else (0 : Int32))) (if (u_8.1 ≤ v5_46) then v4_46 else v7_46) (if v5_46 < u_8.1 then u_8.1 else v5_46) (v7_46 + (1 : Int32)) u_8.2.1 u_8.2.2 ls (lv_sub hl [3, 4, 5, 6, 2, 1, 7, 0] rfl) H locs hP hS hr
              refine lv_icmp_le (tgt := 94) hx hb dX7_row_86 (by decide) (fun c_13 => ?_) (fun c_13 => ?_)
              · refine lv_iload hx hb dX7_row_94 (lv_at hl 4 rfl) ?_
                exact hJ_11 _ (if_pos c_13).symm ls (lv_sub hl [1, 2, 3, 0, 5, 6, 7, 8] rfl)
              · refine lv_iload hx hb dX7_row_89 (lv_at hl 7 rfl) ?_
                refine lv_goto (tgt := 96) hx hb dX7_row_91 (by decide) ?_
                exact hJ_11 _ (if_neg c_13).symm ls (lv_sub hl [1, 2, 3, 0, 5, 6, 7, 8] rfl)
            refine lv_if_le (tgt := 79) hx hb dX7_row_72 (by decide) (fun c_14 => ?_) (fun c_14 => ?_)
            · refine lv_iconst (v := (0 : Int32)) hx hb dX7_row_79 (by decide) ?_
              exact hJ_9 _ (if_neg (fun h => h c_14)).symm ls (lv_sub hl [1, 2, 3, 5, 6, 7, 8, 0] rfl)
            · refine lv_iconst (v := (1 : Int32)) hx hb dX7_row_75 (by decide) ?_
              refine lv_goto (tgt := 80) hx hb dX7_row_76 (by decide) ?_
              exact hJ_9 _ (if_pos c_14).symm ls (lv_sub hl [1, 2, 3, 5, 6, 7, 8, 0] rfl)
          have tF_15 : ¬ ((¬ (u_5 ≤ v7_46)) ∧ (¬ ((2 : Int32) ≤ v2_46))) → W p l e rmX7_row s m args below meth c H locs 0 0 Q (F0 m 113 ls []) := by
            intro hc_6
            have hr := ite_n hr hc_6
            exact hk v3_46 v4_46 o_triangle_46 o_takenBy_46 ls (lv_sub hl [0, 1, 2, 3, 4, 6] rfl) H locs hP hS hr
          refine lv_icmp_ge (tgt := 113) hx hb dX7_row_52 (by decide) (fun c_16 => ?_) (fun c_16 => ?_)
          · exact tF_15 (fun h => (fun h => h c_16) h.1)
          · refine lv_iload_n hx hb dX7_row_55 rfl (lv_at hl 2 rfl) ?_
            refine lv_iconst (v := (2 : Int32)) hx hb dX7_row_56 (by decide) ?_
            refine lv_icmp_ge (tgt := 113) hx hb dX7_row_57 (by decide) (fun c_17 => ?_) (fun c_17 => ?_)
            · exact tF_15 (fun h => (fun h => h c_17) h.2)
            · exact tT_7 ⟨c_16, c_17⟩
      refine hL46 p0 p1 (0 : Int32) _ (fun x3_46 x4_46 xc_o_triangle_46 xc_o_takenBy_46 ls hl H locs hP hS hr => ?_) 5000 (0 : Int32) (0 : Int32) (0 : Int32) (0 : Int32) o_triangle o_takenBy ls (lv_sub hl [5, 6, 7, 4, 3, 2, 1, 0] rfl) H locs hP hS hr
      refine lv_iconst (v := (0 : Int32)) hx hb dX7_row_113 (by decide) ?_
      refine lv_istore (lv' := [(7, .int (0 : Int32)), (0, .ref a_o), (1, .int p0), (2, .int p1), (3, .int x3_46), (4, .int x4_46), (6, .int (0 : Int32))]) hx hb dX7_row_114 hl (by decide) rfl (fun ls hl => ?_)
      have hL116 : ∀ (v1_116 : Int32) (v2_116 : Int32) (v3_116 : Int32) (v4_116 : Int32) (o_triangle_116 : Nat → Int32) (o_takenBy_116 : Int32) (k_116 : Int32 → Option (Int32 × (Nat → Int32) × Int32)) (hk : ∀ (x6_116 : Int32) (ls : Array Slot), lv_has ls 9 [(2, .int v2_116), (3, .int v3_116), (4, .int v4_116), (6, .int x6_116)] → ∀ (H : Heap) (locs : List Loc), va_P (dC, dI) vwCl [(a_o, .inr (6, [.ref a_o_g, .ref a_o_kept, .ref a_o_was, .int o_isKept, .ref a_o_triangle, .int o_takenBy_116, .ref a_o_text, .int o_fed, .int o_place, .int o_letter, .int o_first, .int o_second, .ref a_o_sort, .ref a_o_size, .ref a_o_items])), (a_o_g, .inl (cI, 64, .inl o_g)), (a_o_triangle, .inl (cI, 16384, .inl o_triangle_116))] H → va_S A s.heap H locs →  k_116 x6_116 = some r → W p l e rmX7_row s m args below meth c H locs 0 0 Q (F0 m 142 ls [])) (fuel : Nat) (v6_116 : Int32) (v7_116 : Int32) (ls : Array Slot), lv_has ls 9 [(0, .ref a_o), (1, .int v1_116), (2, .int v2_116), (3, .int v3_116), (4, .int v4_116), (6, .int v6_116), (7, .int v7_116)] → ∀ (H : Heap) (locs : List Loc), va_P (dC, dI) vwCl [(a_o, .inr (6, [.ref a_o_g, .ref a_o_kept, .ref a_o_was, .int o_isKept, .ref a_o_triangle, .int o_takenBy_116, .ref a_o_text, .int o_fed, .int o_place, .int o_letter, .int o_first, .int o_second, .ref a_o_sort, .ref a_o_size, .ref a_o_items])), (a_o_g, .inl (cI, 64, .inl o_g)), (a_o_triangle, .inl (cI, 16384, .inl o_triangle_116))] H → va_S A s.heap H locs → f_X7_row_L116 k_116 v1_116 o_g fuel v6_116 v7_116 = some r → W p l e rmX7_row s m args below meth c H locs 0 0 Q (F0 m 116 ls []) := by
        intro v1_116 v2_116 v3_116 v4_116 o_triangle_116 o_takenBy_116 k_116 hk fuel
        induction fuel with
        | zero =>
          intro v6_116 v7_116 ls hl H locs hP hS hr
          rw [f_X7_row_L116_z] at hr
          cases hr
        | succ fuel ih =>
          intro v6_116 v7_116 ls hl H locs hP hS hr
          rw [f_X7_row_L116_s] at hr
          refine lv_iload hx hb dX7_row_116 (lv_at hl 6 rfl) ?_
          refine lv_iload_n hx hb dX7_row_118 rfl (lv_at hl 1 rfl) ?_
          refine lv_icmp_gt (tgt := 142) hx hb dX7_row_119 (by decide) (fun c_18 => ?_) (fun c_18 => ?_)
          · have hr := ite_p hr c_18
            exact hk v6_116 ls (lv_sub hl [2, 3, 4, 5] rfl) H locs hP hS hr
          · have hr := ite_n hr c_18
            refine lv_iload hx hb dX7_row_122 (lv_at hl 5 rfl) ?_
            refine lv_aload_n hx hb dX7_row_124 rfl (lv_at hl 0 rfl) ?_
            refine lv_iload_n hx hb dX7_row_125 rfl (lv_at hl 1 rfl) ?_
            refine lv_iload hx hb dX7_row_126 (lv_at hl 6 rfl) ?_
            obtain ⟨u_19, hu_19, hr⟩ := bd_e hr
            refine ro_V ⟨hx, hb, hml, hown, hts⟩ (k_X7_carries l dC dI cI cJ a_o a_o_g a_o_kept a_o_was a_o_triangle a_o_text a_o_sort a_o_size a_o_items v1_116 v7_116 o_isKept o_takenBy_116 o_fed o_place o_letter o_first o_second o_g u_19 hu_19) (cwV 2 hts gX7_row_X7_carries rfl rfl rfl (by decide +kernel) ⟨Nat.le_of_ble_eq_true rfl, Nat.le_of_ble_eq_true rfl⟩) hE hP 0 rfl rfl rfl (hP.sub [0, 1] rfl) rfl hl.1 rfl (Nat.le_of_ble_eq_true rfl) dX7_row_128 ⟨Nat.zero_le _, Nat.zero_le _⟩ ?_
            refine va_mmax hx hb (hml.trans hl.1.symm) hown (hts (.methodLink RX7 165 Lib.Math.max.name) (List.mem_of_getElem? (i := 2) rfl)) (hts (.static Lib.Math.max.name) (List.mem_of_getElem? (i := 3) rfl)) (hts (.initialized "java/lang/Math") (List.mem_of_getElem? (i := 4) rfl)) (hts (.code Lib.Math.max.name Lib.Math.max.code 2 (some .int)) (List.mem_of_getElem? (i := 5) rfl)) (Nat.le_of_ble_eq_true rfl) (Nat.le_of_ble_eq_true rfl) (Nat.zero_le _) (Nat.zero_le _) dX7_row_131 ?_
            refine lv_istore (lv' := [(6, .int (if v6_116 < u_19 then u_19 else v6_116)), (0, .ref a_o), (1, .int v1_116), (2, .int v2_116), (3, .int v3_116), (4, .int v4_116), (7, .int v7_116)]) hx hb dX7_row_134 hl (by decide) rfl (fun ls hl => ?_)
            refine lv_iinc (v := (v7_116 + (1 : Int32))) (lv' := [(7, .int (v7_116 + (1 : Int32))), (6, .int (if v6_116 < u_19 then u_19 else v6_116)), (0, .ref a_o), (1, .int v1_116), (2, .int v2_116), (3, .int v3_116), (4, .int v4_116)]) hx hb dX7_row_136 hl (k := 6) rfl (congrArg (fun z => v7_116 + z) (by decide)) (by decide) rfl (fun ls hl => ?_)
            refine lv_goto (tgt := 116) hx hb dX7_row_139 (by decide) ?_
            exact ih (if v6_116 < u_19 then u_19 else v6_116) (v7_116 + (1 : Int32)) ls (lv_sub hl [2, 3, 4, 5, 6, 1, 0] rfl) H locs hP hS hr
      refine hL116 p0 p1 x3_46 x4_46 xc_o_triangle_46 xc_o_takenBy_46 _ (fun x6_116 ls hl H locs hP hS hr => ?_) 5000 (0 : Int32) (0 : Int32) ls (lv_sub hl [1, 2, 3, 4, 5, 6, 0] rfl) H locs hP hS hr
      refine lv_iload_n hx hb dX7_row_142 rfl (lv_at hl 0 rfl) ?_
      have hJ_20 : ∀ (y_21 : Int32) (ey_21 : y_21 = (if (p1 = 0) then x3_46 else (if (p1 = (1 : Int32)) then x4_46 else x6_116))) (ls : Array Slot), lv_has ls 9 [] → W p l e rmX7_row s m args below meth c H locs 0 0 Q (F0 m 162 ls [.int y_21]) := by
        intro y_21 ey_21 ls hl
        have hr := qn_e hr ey_21
        obtain rfl := Option.some.inj hr
        exact hret H locs _ hP hS (fun Qc free hq hf => W.iret hx hb hrt hq hf dX7_row_162 hlocks)
      refine lv_if_ne (tgt := 150) hx hb dX7_row_143 (by decide) (fun c_22 => ?_) (fun c_22 => ?_)
      · refine lv_iload_n hx hb dX7_row_150 rfl (lv_at hl 0 rfl) ?_
        refine lv_iconst (v := (1 : Int32)) hx hb dX7_row_151 (by decide) ?_
        refine lv_icmp_ne (tgt := 160) hx hb dX7_row_152 (by decide) (fun c_23 => ?_) (fun c_23 => ?_)
        · refine lv_iload hx hb dX7_row_160 (lv_at hl 3 rfl) ?_
          exact hJ_20 _ ((if_neg c_22).trans (if_neg c_23)).symm ls (lv_sub hl [] rfl)
        · refine lv_iload hx hb dX7_row_155 (lv_at hl 2 rfl) ?_
          refine lv_goto (tgt := 162) hx hb dX7_row_157 (by decide) ?_
          exact hJ_20 _ ((if_neg c_22).trans (if_pos c_23)).symm ls (lv_sub hl [] rfl)
      · refine lv_iload_n hx hb dX7_row_146 rfl (lv_at hl 1 rfl) ?_
        refine lv_goto (tgt := 162) hx hb dX7_row_147 (by decide) ?_
        exact hJ_20 _ (if_pos c_22).symm ls (lv_sub hl [] rfl)
    · have hr := ite_p hr c_4
      refine lv_aload_n hx hb dX7_row_26 rfl (lv_at hl 0 rfl) ?_
      refine lv_iload_n hx hb dX7_row_27 rfl (lv_at hl 1 rfl) ?_
      obtain ⟨u_24, hu_24, hr⟩ := bd_e hr
      refine mu_V ⟨hx, hb, hml, hown, hts⟩ (k_X7_sumOf l dC dI cI cJ a_o a_o_g a_o_kept a_o_was a_o_triangle a_o_text a_o_sort a_o_size a_o_items p0 o_isKept o_takenBy o_fed o_place o_letter o_first o_second o_g o_triangle H.size u_24 hu_24) (cwV 1 hts gX7_row_X7_sumOf rfl rfl rfl (by decide +kernel) ⟨Nat.le_of_ble_eq_true rfl, Nat.le_of_ble_eq_true rfl⟩) hE 0 rfl rfl rfl rfl hl.1 rfl (Nat.le_of_ble_eq_true rfl) dX7_row_28 ⟨Nat.zero_le _, Nat.zero_le _⟩ hP (hD.fst rfl) hS hA [0, 1, 2] [] [0, 1, 2] rfl rfl (by decide) (by decide) rfl (by decide) (W1 := [(a_o, .inr (6, [.ref a_o_g, .ref a_o_kept, .ref a_o_was, .int o_isKept, .ref a_o_triangle, .int u_24.2.2, .ref a_o_text, .int o_fed, .int o_place, .int o_letter, .int o_first, .int o_second, .ref a_o_sort, .ref a_o_size, .ref a_o_items])), (a_o_g, .inl (cI, 64, .inl o_g)), (a_o_triangle, .inl (cI, 16384, .inl u_24.2.1))]) rfl (fun H locs hP hS => W.eq (g2 := F0 m 31 ls [.int u_24.1]) rfl ?_)
      obtain rfl := Option.some.inj hr
      exact hret H locs _ hP hS (fun Qc free hq hf => W.iret hx hb hrt hq hf dX7_row_31 hlocks)
  refine lv_if_eq (tgt := 19) hx hb dX7_row_4 (by decide) (fun c_25 => ?_) (fun c_25 => ?_)
  · exact tT_2 (Or.inl c_25)
  · refine lv_iload_n hx hb dX7_row_7 rfl (lv_at hl 2 rfl) ?_
    refine lv_i2l (v := (Int32.toInt64 p1)) hx hb dX7_row_8 rfl ?_
    refine lv_lconst (v := (0 : Int64)) hx hb dX7_row_9 (by decide) ?_
    refine lv_ldc2 (v := (3 : Int64)) hx hb hown (hts (.constantLong RX7 160 (3)) (List.mem_of_getElem? (i := 1) rfl)) dX7_row_10 ?_
    refine ro_S ⟨hx, hb, hml, hown, hts⟩ (k_X7_isIn l dC dI cI cJ (Int32.toInt64 p1) (0 : Int64) (3 : Int64)) (va_cwS 3 hts gX7_row_X7_isIn rfl rfl rfl (by decide +kernel) ⟨Nat.le_of_ble_eq_true rfl, Nat.le_of_ble_eq_true rfl⟩) hE (hP.sub [] rfl) rfl hl.1 rfl (Nat.le_of_ble_eq_true rfl) dX7_row_13 ⟨Nat.zero_le _, Nat.zero_le _⟩ ?_
    refine lv_if_ne (tgt := 21) hx hb dX7_row_16 (by decide) (fun c_26 => ?_) (fun c_26 => ?_)
    · exact tF_3 (fun h => h.elim c_25 c_26)
    · exact tT_2 (Or.inr c_26)
/-! X7_kind -/
def rmX7_kind : Room := { frames := 4, cells := 0, slots := 0, locals := 89 }
set_option maxHeartbeats 4000000 in
set_option maxRecDepth 100000 in
theorem k_X7_kind (l : Launch) (dC : Nat → ClassId) (dI : Nat → Nat → Nat) (cI cJ : ClassId) (a_o : Nat) (a_o_g : Nat) (a_o_kept : Nat) (a_o_was : Nat) (a_o_triangle : Nat) (a_o_text : Nat) (a_o_sort : Nat) (a_o_size : Nat) (a_o_items : Nat) (p0 : Int32) (p1 : Int32) (o_isKept : Int32) (o_takenBy : Int32) (o_fed : Int32) (o_place : Int32) (o_letter : Int32) (o_first : Int32) (o_second : Int32) (o_g : Nat → Int32) (o_triangle : Nat → Int32) (sz : Nat) (r : Int32 × (Nat → Int32) × Int32) (hr : f_X7_kind p0 p1 o_g o_triangle o_takenBy = some r) : Met l yX7_kind wsX7_kind rmX7_kind (va_Pc [.ref a_o, .int p0, .int p1] (pM (dC, dI) cI cJ [(a_o, .inr (6, [.ref a_o_g, .ref a_o_kept, .ref a_o_was, .int o_isKept, .ref a_o_triangle, .int o_takenBy, .ref a_o_text, .int o_fed, .int o_place, .int o_letter, .int o_first, .int o_second, .ref a_o_sort, .ref a_o_size, .ref a_o_items])), (a_o_g, .inl (cI, 64, .inl o_g)), (a_o_triangle, .inl (cI, 16384, .inl o_triangle))] sz)) (qM (some (.int r.1)) (dC, dI) [(a_o, .inr (6, [.ref a_o_g, .ref a_o_kept, .ref a_o_was, .int o_isKept, .ref a_o_triangle, .int r.2.2, .ref a_o_text, .int o_fed, .int o_place, .int o_letter, .int o_first, .int o_second, .ref a_o_sort, .ref a_o_size, .ref a_o_items])), (a_o_g, .inl (cI, 64, .inl o_g)), (a_o_triangle, .inl (cI, 16384, .inl r.2.1))] (va_A [(a_o, .inr (6, [.ref a_o_g, .ref a_o_kept, .ref a_o_was, .int o_isKept, .ref a_o_triangle, .int o_takenBy, .ref a_o_text, .int o_fed, .int o_place, .int o_letter, .int o_first, .int o_second, .ref a_o_sort, .ref a_o_size, .ref a_o_items])), (a_o_g, .inl (cI, 64, .inl o_g)), (a_o_triangle, .inl (cI, 16384, .inl o_triangle))] sz)) 0 0 (va_A [(a_o, .inr (6, [.ref a_o_g, .ref a_o_kept, .ref a_o_was, .int o_isKept, .ref a_o_triangle, .int o_takenBy, .ref a_o_text, .int o_fed, .int o_place, .int o_letter, .int o_first, .int o_second, .ref a_o_sort, .ref a_o_size, .ref a_o_items])), (a_o_g, .inl (cI, 64, .inl o_g)), (a_o_triangle, .inl (cI, 16384, .inl o_triangle))] sz) := by
  refine mu_of (cc := cX7_kind) (maxL := 5) (by decide) rfl (Nat.le_of_ble_eq_true rfl) ?_
  intro p e s m args below meth c Q ls A hx hb hml hown hts hE hP hD hA hrt hlocks hret hl
  have hK := hE.1
  have hS : va_S A s.heap s.heap [] := va_S.rf
  have hl : lv_has ls 5 [(0, .ref a_o), (1, .int p0), (2, .int p1)] := hl
  unfold f_X7_kind at hr
  obtain ⟨H, hHe⟩ : ∃ H, H = s.heap := ⟨_, rfl⟩
  obtain ⟨locs, hLe⟩ : ∃ locs : List Loc, locs = [] := ⟨_, rfl⟩
  suffices hgo : va_P (dC, dI) vwCl [(a_o, .inr (6, [.ref a_o_g, .ref a_o_kept, .ref a_o_was, .int o_isKept, .ref a_o_triangle, .int o_takenBy, .ref a_o_text, .int o_fed, .int o_place, .int o_letter, .int o_first, .int o_second, .ref a_o_sort, .ref a_o_size, .ref a_o_items])), (a_o_g, .inl (cI, 64, .inl o_g)), (a_o_triangle, .inl (cI, 16384, .inl o_triangle))] H → va_S A s.heap H locs → W p l e rmX7_kind s m args below meth c H locs 0 0 Q (F0 m 0 ls []) by
    subst hHe; subst hLe; exact hgo hP hS
  clear hP hS hHe hLe
  intro hP hS
  have iX7 : ∀ w ∈ wsX70, w ∈ wsX7_kind := memr_ (big := wsX7_kind) wsX70 [31, 32, 33, 34, 35, 36, 37, 38, 39, 40, 41, 42, 43, 44, 45] (by decide +kernel)
  refine lv_iload_n hx hb dX7_kind_0 rfl (lv_at hl 1 rfl) ?_
  refine ro_S ⟨hx, hb, hml, hown, hts⟩ (k_X7_isRow l dC dI cI cJ p0) (va_cwS 1 hts gX7_kind_X7_isRow rfl rfl rfl (by decide +kernel) ⟨Nat.le_of_ble_eq_true rfl, Nat.le_of_ble_eq_true rfl⟩) hE (hP.sub [] rfl) rfl hl.1 rfl (Nat.le_of_ble_eq_true rfl) dX7_kind_1 ⟨Nat.zero_le _, Nat.zero_le _⟩ ?_
  have tT_2 : (((f_X7_isRow p0) = 0) ∨ (¬ (0 ≤ p1))) → W p l e rmX7_kind s m args below meth c H locs 0 0 Q (F0 m 11 ls []) := by
    intro hc_1
    have hr := ite_p hr hc_1
    refine lv_iconst (v := (-1 : Int32)) hx hb dX7_kind_11 (by decide) ?_
    obtain rfl := Option.some.inj hr
    exact hret H locs _ hP hS (fun Qc free hq hf => W.iret hx hb hrt hq hf dX7_kind_12 hlocks)
  have tF_3 : ¬ (((f_X7_isRow p0) = 0) ∨ (¬ (0 ≤ p1))) → W p l e rmX7_kind s m args below meth c H locs 0 0 Q (F0 m 13 ls []) := by
    intro hc_1
    have hr := ite_n hr hc_1
    refine lv_iload_n hx hb dX7_kind_13 rfl (lv_at hl 2 rfl) ?_
    refine lv_istore_n (lv' := [(3, .int p1), (0, .ref a_o), (1, .int p0), (2, .int p1)]) hx hb dX7_kind_14 rfl hl (by decide) rfl (fun ls hl => ?_)
    refine lv_iconst (v := (0 : Int32)) hx hb dX7_kind_15 (by decide) ?_
    refine lv_istore (lv' := [(4, .int (0 : Int32)), (3, .int p1), (0, .ref a_o), (1, .int p0), (2, .int p1)]) hx hb dX7_kind_16 hl (by decide) rfl (fun ls hl => ?_)
    have hL18 : ∀ (v1_18 : Int32) (k_18 : (Nat → Int32) → (Int32) → Option (Int32 × (Nat → Int32) × Int32)) (hk : ∀ (xc_o_triangle_18 : Nat → Int32) (xc_o_takenBy_18 : Int32) (ls : Array Slot), lv_has ls 5 [] → ∀ (H : Heap) (locs : List Loc), va_P (dC, dI) vwCl [(a_o, .inr (6, [.ref a_o_g, .ref a_o_kept, .ref a_o_was, .int o_isKept, .ref a_o_triangle, .int xc_o_takenBy_18, .ref a_o_text, .int o_fed, .int o_place, .int o_letter, .int o_first, .int o_second, .ref a_o_sort, .ref a_o_size, .ref a_o_items])), (a_o_g, .inl (cI, 64, .inl o_g)), (a_o_triangle, .inl (cI, 16384, .inl xc_o_triangle_18))] H → va_S A s.heap H locs →  k_18 xc_o_triangle_18 xc_o_takenBy_18 = some r → W p l e rmX7_kind s m args below meth c H locs 0 0 Q (F0 m 53 ls [])) (fuel : Nat) (v3_18 : Int32) (v4_18 : Int32) (o_triangle_18 : Nat → Int32) (o_takenBy_18 : Int32) (ls : Array Slot), lv_has ls 5 [(0, .ref a_o), (1, .int v1_18), (3, .int v3_18), (4, .int v4_18)] → ∀ (H : Heap) (locs : List Loc), va_P (dC, dI) vwCl [(a_o, .inr (6, [.ref a_o_g, .ref a_o_kept, .ref a_o_was, .int o_isKept, .ref a_o_triangle, .int o_takenBy_18, .ref a_o_text, .int o_fed, .int o_place, .int o_letter, .int o_first, .int o_second, .ref a_o_sort, .ref a_o_size, .ref a_o_items])), (a_o_g, .inl (cI, 64, .inl o_g)), (a_o_triangle, .inl (cI, 16384, .inl o_triangle_18))] H → va_S A s.heap H locs → f_X7_kind_L18 k_18 v1_18 o_g fuel v3_18 v4_18 o_triangle_18 o_takenBy_18 = some r → W p l e rmX7_kind s m args below meth c H locs 0 0 Q (F0 m 18 ls []) := by
      intro v1_18 k_18 hk fuel
      induction fuel with
      | zero =>
        intro v3_18 v4_18 o_triangle_18 o_takenBy_18 ls hl H locs hP hS hr
        rw [f_X7_kind_L18_z] at hr
        cases hr
      | succ fuel ih =>
        intro v3_18 v4_18 o_triangle_18 o_takenBy_18 ls hl H locs hP hS hr
        rw [f_X7_kind_L18_s] at hr
        refine lv_iload hx hb dX7_kind_18 (lv_at hl 3 rfl) ?_
        refine lv_aload_n hx hb dX7_kind_20 rfl (lv_at hl 0 rfl) ?_
        obtain ⟨u_4, hu_4, hr⟩ := bd_e hr
        refine ro_V ⟨hx, hb, hml, hown, hts⟩ (k_X7_modulus l dC dI cI cJ a_o a_o_g a_o_kept a_o_was a_o_triangle a_o_text a_o_sort a_o_size a_o_items o_isKept o_takenBy_18 o_fed o_place o_letter o_first o_second o_g u_4 hu_4) (cwV 0 hts gX7_kind_X7_modulus rfl rfl rfl (by decide +kernel) ⟨Nat.le_of_ble_eq_true rfl, Nat.le_of_ble_eq_true rfl⟩) hE hP 0 rfl rfl rfl (hP.sub [0, 1] rfl) rfl hl.1 rfl (Nat.le_of_ble_eq_true rfl) dX7_kind_21 ⟨Nat.zero_le _, Nat.zero_le _⟩ ?_
        refine lv_icmp_ge (tgt := 53) hx hb dX7_kind_24 (by decide) (fun c_5 => ?_) (fun c_5 => ?_)
        · have hr := ite_p hr c_5
          exact hk o_triangle_18 o_takenBy_18 ls (lv_sub hl [] rfl) H locs hP hS hr
        · have hr := ite_n hr c_5
          refine lv_aload_n hx hb dX7_kind_27 rfl (lv_at hl 0 rfl) ?_
          refine lv_iload_n hx hb dX7_kind_28 rfl (lv_at hl 1 rfl) ?_
          refine lv_iload hx hb dX7_kind_29 (lv_at hl 3 rfl) ?_
          obtain ⟨u_6, hu_6, hr⟩ := bd_e hr
          refine mu_V ⟨hx, hb, hml, hown, hts⟩ (k_X7_countOf l dC dI cI cJ a_o a_o_g a_o_kept a_o_was a_o_triangle a_o_text a_o_sort a_o_size a_o_items v1_18 v4_18 o_isKept o_takenBy_18 o_fed o_place o_letter o_first o_second o_g o_triangle_18 H.size u_6 hu_6) (cwV 2 hts gX7_kind_X7_countOf rfl rfl rfl (by decide +kernel) ⟨Nat.le_of_ble_eq_true rfl, Nat.le_of_ble_eq_true rfl⟩) hE 0 rfl rfl rfl rfl hl.1 rfl (Nat.le_of_ble_eq_true rfl) dX7_kind_31 ⟨Nat.zero_le _, Nat.zero_le _⟩ hP (hD.fst rfl) hS hA [0, 1, 2] [] [0, 1, 2] rfl rfl (by decide) (by decide) rfl (by decide) (W1 := [(a_o, .inr (6, [.ref a_o_g, .ref a_o_kept, .ref a_o_was, .int o_isKept, .ref a_o_triangle, .int u_6.2.2, .ref a_o_text, .int o_fed, .int o_place, .int o_letter, .int o_first, .int o_second, .ref a_o_sort, .ref a_o_size, .ref a_o_items])), (a_o_g, .inl (cI, 64, .inl o_g)), (a_o_triangle, .inl (cI, 16384, .inl u_6.2.1))]) rfl (fun H locs hP hS => W.eq (g2 := F0 m 34 ls [.int u_6.1]) rfl ?_)
          refine lv_if_le (tgt := 47) hx hb dX7_kind_34 (by decide) (fun c_7 => ?_) (fun c_7 => ?_)
          · have hr := ite_p hr c_7
            refine lv_iinc (v := (v4_18 + (1 : Int32))) (lv' := [(4, .int (v4_18 + (1 : Int32))), (0, .ref a_o), (1, .int v1_18), (3, .int v3_18)]) hx hb dX7_kind_47 hl (k := 3) rfl (congrArg (fun z => v4_18 + z) (by decide)) (by decide) rfl (fun ls hl => ?_)
            refine lv_goto (tgt := 18) hx hb dX7_kind_50 (by decide) ?_
            exact ih v3_18 (v4_18 + (1 : Int32)) u_6.2.1 u_6.2.2 ls (lv_sub hl [1, 2, 3, 0] rfl) H locs hP hS hr
          · have hr := ite_n hr c_7
            refine lv_iload_n hx hb dX7_kind_37 rfl (lv_at hl 2 rfl) ?_
            refine lv_if_ne (tgt := 44) hx hb dX7_kind_38 (by decide) (fun c_8 => ?_) (fun c_8 => ?_)
            · have hr := ite_n hr c_8
              refine lv_iinc (v := (v3_18 + (-1 : Int32))) (lv' := [(3, .int (v3_18 + (-1 : Int32))), (0, .ref a_o), (1, .int v1_18), (4, .int v4_18)]) hx hb dX7_kind_44 hl (k := 2) rfl (congrArg (fun z => v3_18 + z) (by decide)) (by decide) rfl (fun ls hl => ?_)
              refine lv_iinc (v := (v4_18 + (1 : Int32))) (lv' := [(4, .int (v4_18 + (1 : Int32))), (3, .int (v3_18 + (-1 : Int32))), (0, .ref a_o), (1, .int v1_18)]) hx hb dX7_kind_47 hl (k := 3) rfl (congrArg (fun z => v4_18 + z) (by decide)) (by decide) rfl (fun ls hl => ?_)
              refine lv_goto (tgt := 18) hx hb dX7_kind_50 (by decide) ?_
              exact ih (v3_18 + (-1 : Int32)) (v4_18 + (1 : Int32)) u_6.2.1 u_6.2.2 ls (lv_sub hl [2, 3, 1, 0] rfl) H locs hP hS hr
            · have hr := ite_p hr c_8
              refine lv_iload hx hb dX7_kind_41 (lv_at hl 3 rfl) ?_
              obtain rfl := Option.some.inj hr
              exact hret H locs _ hP hS (fun Qc free hq hf => W.iret hx hb hrt hq hf dX7_kind_43 hlocks)
    refine hL18 p0 _ (fun xc_o_triangle_18 xc_o_takenBy_18 ls hl H locs hP hS hr => ?_) 5000 p1 (0 : Int32) o_triangle o_takenBy ls (lv_sub hl [2, 3, 1, 0] rfl) H locs hP hS hr
    refine lv_bipush (v := (-5 : Int32)) hx hb dX7_kind_53 (by decide) ?_
    obtain rfl := Option.some.inj hr
    exact hret H locs _ hP hS (fun Qc free hq hf => W.iret hx hb hrt hq hf dX7_kind_55 hlocks)
  refine lv_if_eq (tgt := 11) hx hb dX7_kind_4 (by decide) (fun c_9 => ?_) (fun c_9 => ?_)
  · exact tT_2 (Or.inl c_9)
  · refine lv_iload_n hx hb dX7_kind_7 rfl (lv_at hl 2 rfl) ?_
    refine lv_if_ge (tgt := 13) hx hb dX7_kind_8 (by decide) (fun c_10 => ?_) (fun c_10 => ?_)
    · exact tF_3 (fun h => h.elim c_9 (fun h => h c_10))
    · exact tT_2 (Or.inr c_10)
