/-! X7_upTo -/
def rmX7_upTo : Room := { frames := 4, cells := 0, slots := 0, locals := 89 }
set_option maxHeartbeats 4000000 in
set_option maxRecDepth 100000 in
theorem k_X7_upTo (l : Launch) (dC : Nat → ClassId) (dI : Nat → Nat → Nat) (cI cJ : ClassId) (a_o : Nat) (a_o_g : Nat) (a_o_kept : Nat) (a_o_was : Nat) (a_o_triangle : Nat) (a_o_text : Nat) (a_o_sort : Nat) (a_o_size : Nat) (a_o_items : Nat) (p0 : Int32) (p1 : Int32) (o_isKept : Int32) (o_takenBy : Int32) (o_fed : Int32) (o_place : Int32) (o_letter : Int32) (o_first : Int32) (o_second : Int32) (o_g : Nat → Int32) (o_triangle : Nat → Int32) (sz : Nat) (r : Int32 × (Nat → Int32) × Int32) (hr : f_X7_upTo p0 p1 o_g o_triangle o_takenBy = some r) : Met l yX7_upTo wsX7_upTo rmX7_upTo (va_Pc [.ref a_o, .int p0, .int p1] (pM (dC, dI) cI cJ [(a_o, .inr (6, [.ref a_o_g, .ref a_o_kept, .ref a_o_was, .int o_isKept, .ref a_o_triangle, .int o_takenBy, .ref a_o_text, .int o_fed, .int o_place, .int o_letter, .int o_first, .int o_second, .ref a_o_sort, .ref a_o_size, .ref a_o_items])), (a_o_g, .inl (cI, 64, .inl o_g)), (a_o_triangle, .inl (cI, 16384, .inl o_triangle))] sz)) (qM (some (.int r.1)) (dC, dI) [(a_o, .inr (6, [.ref a_o_g, .ref a_o_kept, .ref a_o_was, .int o_isKept, .ref a_o_triangle, .int r.2.2, .ref a_o_text, .int o_fed, .int o_place, .int o_letter, .int o_first, .int o_second, .ref a_o_sort, .ref a_o_size, .ref a_o_items])), (a_o_g, .inl (cI, 64, .inl o_g)), (a_o_triangle, .inl (cI, 16384, .inl r.2.1))] (va_A [(a_o, .inr (6, [.ref a_o_g, .ref a_o_kept, .ref a_o_was, .int o_isKept, .ref a_o_triangle, .int o_takenBy, .ref a_o_text, .int o_fed, .int o_place, .int o_letter, .int o_first, .int o_second, .ref a_o_sort, .ref a_o_size, .ref a_o_items])), (a_o_g, .inl (cI, 64, .inl o_g)), (a_o_triangle, .inl (cI, 16384, .inl o_triangle))] sz)) 0 0 (va_A [(a_o, .inr (6, [.ref a_o_g, .ref a_o_kept, .ref a_o_was, .int o_isKept, .ref a_o_triangle, .int o_takenBy, .ref a_o_text, .int o_fed, .int o_place, .int o_letter, .int o_first, .int o_second, .ref a_o_sort, .ref a_o_size, .ref a_o_items])), (a_o_g, .inl (cI, 64, .inl o_g)), (a_o_triangle, .inl (cI, 16384, .inl o_triangle))] sz) := by
  refine mu_of (cc := cX7_upTo) (maxL := 8) (by decide) rfl (Nat.le_of_ble_eq_true rfl) ?_
  intro p e s m args below meth c Q ls A hx hb hml hown hts hE hP hD hA hrt hlocks hret hl
  have hK := hE.1
  have hS : va_S A s.heap s.heap [] := va_S.rf
  have hl : lv_has ls 8 [(0, .ref a_o), (1, .int p0), (2, .int p1)] := hl
  unfold f_X7_upTo at hr
  obtain ⟨H, hHe⟩ : ∃ H, H = s.heap := ⟨_, rfl⟩
  obtain ⟨locs, hLe⟩ : ∃ locs : List Loc, locs = [] := ⟨_, rfl⟩
  suffices hgo : va_P (dC, dI) vwCl [(a_o, .inr (6, [.ref a_o_g, .ref a_o_kept, .ref a_o_was, .int o_isKept, .ref a_o_triangle, .int o_takenBy, .ref a_o_text, .int o_fed, .int o_place, .int o_letter, .int o_first, .int o_second, .ref a_o_sort, .ref a_o_size, .ref a_o_items])), (a_o_g, .inl (cI, 64, .inl o_g)), (a_o_triangle, .inl (cI, 16384, .inl o_triangle))] H → va_S A s.heap H locs → W p l e rmX7_upTo s m args below meth c H locs 0 0 Q (F0 m 0 ls []) by
    subst hHe; subst hLe; exact hgo hP hS
  clear hP hS hHe hLe
  intro hP hS
  have iX7 : ∀ w ∈ wsX70, w ∈ wsX7_upTo := memr_ (big := wsX7_upTo) wsX70 [32, 33, 34, 35, 36, 37, 38, 39, 40, 41, 42, 43, 44, 45, 46] (by decide +kernel)
  refine lv_iload_n hx hb dX7_upTo_0 rfl (lv_at hl 1 rfl) ?_
  refine ro_S ⟨hx, hb, hml, hown, hts⟩ (k_X7_isRow l dC dI cI cJ p0) (va_cwS 1 hts gX7_upTo_X7_isRow rfl rfl rfl (by decide +kernel) ⟨Nat.le_of_ble_eq_true rfl, Nat.le_of_ble_eq_true rfl⟩) hE (hP.sub [] rfl) rfl hl.1 rfl (Nat.le_of_ble_eq_true rfl) dX7_upTo_1 ⟨Nat.zero_le _, Nat.zero_le _⟩ ?_
  have tT_2 : (((f_X7_isRow p0) = 0) ∨ ((f_X7_isIn (Int32.toInt64 p1) (0 : Int64) (2 : Int64)) = 0)) → W p l e rmX7_upTo s m args below meth c H locs 0 0 Q (F0 m 19 ls []) := by
    intro hc_1
    have hr := ite_p hr hc_1
    refine lv_iconst (v := (-1 : Int32)) hx hb dX7_upTo_19 (by decide) ?_
    obtain rfl := Option.some.inj hr
    exact hret H locs _ hP hS (fun Qc free hq hf => W.iret hx hb hrt hq hf dX7_upTo_20 hlocks)
  have tF_3 : ¬ (((f_X7_isRow p0) = 0) ∨ ((f_X7_isIn (Int32.toInt64 p1) (0 : Int64) (2 : Int64)) = 0)) → W p l e rmX7_upTo s m args below meth c H locs 0 0 Q (F0 m 21 ls []) := by
    intro hc_1
    have hr := ite_n hr hc_1
    refine lv_iconst (v := (0 : Int32)) hx hb dX7_upTo_21 (by decide) ?_
    refine lv_istore_n (lv' := [(3, .int (0 : Int32)), (0, .ref a_o), (1, .int p0), (2, .int p1)]) hx hb dX7_upTo_22 rfl hl (by decide) rfl (fun ls hl => ?_)
    refine lv_iconst (v := (0 : Int32)) hx hb dX7_upTo_23 (by decide) ?_
    refine lv_istore (lv' := [(4, .int (0 : Int32)), (3, .int (0 : Int32)), (0, .ref a_o), (1, .int p0), (2, .int p1)]) hx hb dX7_upTo_24 hl (by decide) rfl (fun ls hl => ?_)
    refine lv_iconst (v := (0 : Int32)) hx hb dX7_upTo_26 (by decide) ?_
    refine lv_istore (lv' := [(5, .int (0 : Int32)), (4, .int (0 : Int32)), (3, .int (0 : Int32)), (0, .ref a_o), (1, .int p0), (2, .int p1)]) hx hb dX7_upTo_27 hl (by decide) rfl (fun ls hl => ?_)
    refine lv_iconst (v := (0 : Int32)) hx hb dX7_upTo_29 (by decide) ?_
    refine lv_istore (lv' := [(6, .int (0 : Int32)), (5, .int (0 : Int32)), (4, .int (0 : Int32)), (3, .int (0 : Int32)), (0, .ref a_o), (1, .int p0), (2, .int p1)]) hx hb dX7_upTo_30 hl (by decide) rfl (fun ls hl => ?_)
    have hL32 : ∀ (v1_32 : Int32) (v2_32 : Int32) (k_32 : Int32 → Int32 → Int32 → (Nat → Int32) → (Int32) → Option (Int32 × (Nat → Int32) × Int32)) (hk : ∀ (x3_32 : Int32) (x4_32 : Int32) (x5_32 : Int32) (xc_o_triangle_32 : Nat → Int32) (xc_o_takenBy_32 : Int32) (ls : Array Slot), lv_has ls 8 [(2, .int v2_32), (3, .int x3_32), (4, .int x4_32), (5, .int x5_32)] → ∀ (H : Heap) (locs : List Loc), va_P (dC, dI) vwCl [(a_o, .inr (6, [.ref a_o_g, .ref a_o_kept, .ref a_o_was, .int o_isKept, .ref a_o_triangle, .int xc_o_takenBy_32, .ref a_o_text, .int o_fed, .int o_place, .int o_letter, .int o_first, .int o_second, .ref a_o_sort, .ref a_o_size, .ref a_o_items])), (a_o_g, .inl (cI, 64, .inl o_g)), (a_o_triangle, .inl (cI, 16384, .inl xc_o_triangle_32))] H → va_S A s.heap H locs →  k_32 x3_32 x4_32 x5_32 xc_o_triangle_32 xc_o_takenBy_32 = some r → W p l e rmX7_upTo s m args below meth c H locs 0 0 Q (F0 m 101 ls [])) (fuel : Nat) (v3_32 : Int32) (v4_32 : Int32) (v5_32 : Int32) (v6_32 : Int32) (o_triangle_32 : Nat → Int32) (o_takenBy_32 : Int32) (ls : Array Slot), lv_has ls 8 [(0, .ref a_o), (1, .int v1_32), (2, .int v2_32), (3, .int v3_32), (4, .int v4_32), (5, .int v5_32), (6, .int v6_32)] → ∀ (H : Heap) (locs : List Loc), va_P (dC, dI) vwCl [(a_o, .inr (6, [.ref a_o_g, .ref a_o_kept, .ref a_o_was, .int o_isKept, .ref a_o_triangle, .int o_takenBy_32, .ref a_o_text, .int o_fed, .int o_place, .int o_letter, .int o_first, .int o_second, .ref a_o_sort, .ref a_o_size, .ref a_o_items])), (a_o_g, .inl (cI, 64, .inl o_g)), (a_o_triangle, .inl (cI, 16384, .inl o_triangle_32))] H → va_S A s.heap H locs → f_X7_upTo_L32 k_32 v1_32 o_g fuel v3_32 v4_32 v5_32 v6_32 o_triangle_32 o_takenBy_32 = some r → W p l e rmX7_upTo s m args below meth c H locs 0 0 Q (F0 m 32 ls []) := by
      intro v1_32 v2_32 k_32 hk fuel
      induction fuel with
      | zero =>
        intro v3_32 v4_32 v5_32 v6_32 o_triangle_32 o_takenBy_32 ls hl H locs hP hS hr
        rw [f_X7_upTo_L32_z] at hr
        cases hr
      | succ fuel ih =>
        intro v3_32 v4_32 v5_32 v6_32 o_triangle_32 o_takenBy_32 ls hl H locs hP hS hr
        rw [f_X7_upTo_L32_s] at hr
        refine lv_iload hx hb dX7_upTo_32 (lv_at hl 6 rfl) ?_
        refine lv_iload_n hx hb dX7_upTo_34 rfl (lv_at hl 1 rfl) ?_
        refine lv_icmp_gt (tgt := 101) hx hb dX7_upTo_35 (by decide) (fun c_4 => ?_) (fun c_4 => ?_)
        · have hr := ite_p hr c_4
          exact hk v3_32 v4_32 v5_32 o_triangle_32 o_takenBy_32 ls (lv_sub hl [2, 3, 4, 5] rfl) H locs hP hS hr
        · have hr := ite_n hr c_4
          refine lv_aload_n hx hb dX7_upTo_38 rfl (lv_at hl 0 rfl) ?_
          refine lv_iload hx hb dX7_upTo_39 (lv_at hl 6 rfl) ?_
          refine lv_iconst (v := (0 : Int32)) hx hb dX7_upTo_41 (by decide) ?_
          obtain ⟨u_5, hu_5, hr⟩ := bd_e hr
          refine mu_V ⟨hx, hb, hml, hown, hts⟩ (k_X7_countOf l dC dI cI cJ a_o a_o_g a_o_kept a_o_was a_o_triangle a_o_text a_o_sort a_o_size a_o_items v6_32 (0 : Int32) o_isKept o_takenBy_32 o_fed o_place o_letter o_first o_second o_g o_triangle_32 H.size u_5 hu_5) (cwV 2 hts gX7_upTo_X7_countOf rfl rfl rfl (by decide +kernel) ⟨Nat.le_of_ble_eq_true rfl, Nat.le_of_ble_eq_true rfl⟩) hE 0 rfl rfl rfl rfl hl.1 rfl (Nat.le_of_ble_eq_true rfl) dX7_upTo_42 ⟨Nat.zero_le _, Nat.zero_le _⟩ hP (hD.fst rfl) hS hA [0, 1, 2] [] [0, 1, 2] rfl rfl (by decide) (by decide) rfl (by decide) (W1 := [(a_o, .inr (6, [.ref a_o_g, .ref a_o_kept, .ref a_o_was, .int o_isKept, .ref a_o_triangle, .int u_5.2.2, .ref a_o_text, .int o_fed, .int o_place, .int o_letter, .int o_first, .int o_second, .ref a_o_sort, .ref a_o_size, .ref a_o_items])), (a_o_g, .inl (cI, 64, .inl o_g)), (a_o_triangle, .inl (cI, 16384, .inl u_5.2.1))]) rfl (fun H locs hP hS => W.eq (g2 := F0 m 45 ls [.int u_5.1]) rfl ?_)
          refine lv_istore (lv' := [(7, .int u_5.1), (0, .ref a_o), (1, .int v1_32), (2, .int v2_32), (3, .int v3_32), (4, .int v4_32), (5, .int v5_32), (6, .int v6_32)]) hx hb dX7_upTo_45 hl (by decide) rfl (fun ls hl => ?_)
          refine lv_iload_n hx hb dX7_upTo_47 rfl (lv_at hl 4 rfl) ?_
          refine lv_iload hx hb dX7_upTo_48 (lv_at hl 0 rfl) ?_
          have hJ_6 : ∀ (y_7 : Int32) (ey_7 : y_7 = (if (u_5.1 = 0) then (1 : Int32) else (0 : Int32))) (ls : Array Slot), lv_has ls 8 [(0, .ref a_o), (1, .int v1_32), (2, .int v2_32), (4, .int v4_32), (5, .int v5_32), (6, .int v6_32), (7, .int u_5.1)] → W p l e rmX7_upTo s m args below meth c H locs 0 0 Q (F0 m 58 ls [.int y_7, .int v3_32]) := by
            intro y_7 ey_7 ls hl
            subst ey_7
            refine lv_iadd hx hb dX7_upTo_58 ?_
            refine lv_istore_n (lv' := [(3, .int (v3_32 + (if (u_5.1 = 0) then (1 : Int32) else (0 : Int32)))), (0, .ref a_o), (1, .int v1_32), (2, .int v2_32), (4, .int v4_32), (5, .int v5_32), (6, .int v6_32), (7, .int u_5.1)]) hx hb dX7_upTo_59 rfl hl (by decide) rfl (fun ls hl => ?_)
            refine lv_iload hx hb dX7_upTo_60 (lv_at hl 7 rfl) ?_
            have hJ_8 : ∀ (y_9 : Int32) (ey_9 : y_9 = (if (¬ (u_5.1 = 0)) then v4_32 else v6_32)) (ls : Array Slot), lv_has ls 8 [(0, .ref a_o), (1, .int v1_32), (2, .int v2_32), (3, .int (v3_32 + (if (u_5.1 = 0) then (1 : Int32) else (0 : Int32)))), (5, .int v5_32), (6, .int v6_32), (7, .int u_5.1)] → W p l e rmX7_upTo s m args below meth c H locs 0 0 Q (F0 m 72 ls [.int y_9]) := by
              intro y_9 ey_9 ls hl
              subst ey_9
              refine lv_istore (lv' := [(4, .int (if (¬ (u_5.1 = 0)) then v4_32 else v6_32)), (0, .ref a_o), (1, .int v1_32), (2, .int v2_32), (3, .int (v3_32 + (if (u_5.1 = 0) then (1 : Int32) else (0 : Int32)))), (5, .int v5_32), (6, .int v6_32), (7, .int u_5.1)]) hx hb dX7_upTo_72 hl (by decide) rfl (fun ls hl => ?_)
              refine lv_iload hx hb dX7_upTo_74 (lv_at hl 7 rfl) ?_
              refine lv_aload_n hx hb dX7_upTo_76 rfl (lv_at hl 1 rfl) ?_
              refine lv_iload hx hb dX7_upTo_77 (lv_at hl 5 rfl) ?_
              refine lv_iconst (v := (0 : Int32)) hx hb dX7_upTo_79 (by decide) ?_
              obtain ⟨u_10, hu_10, hr⟩ := bd_e hr
              refine mu_V ⟨hx, hb, hml, hown, hts⟩ (k_X7_countOf l dC dI cI cJ a_o a_o_g a_o_kept a_o_was a_o_triangle a_o_text a_o_sort a_o_size a_o_items v5_32 (0 : Int32) o_isKept u_5.2.2 o_fed o_place o_letter o_first o_second o_g u_5.2.1 H.size u_10 hu_10) (cwV 2 hts gX7_upTo_X7_countOf rfl rfl rfl (by decide +kernel) ⟨Nat.le_of_ble_eq_true rfl, Nat.le_of_ble_eq_true rfl⟩) hE 0 rfl rfl rfl rfl hl.1 rfl (Nat.le_of_ble_eq_true rfl) dX7_upTo_80 ⟨Nat.zero_le _, Nat.zero_le _⟩ hP (hD.fst rfl) hS hA [0, 1, 2] [] [0, 1, 2] rfl rfl (by decide) (by decide) rfl (by decide) (W1 := [(a_o, .inr (6, [.ref a_o_g, .ref a_o_kept, .ref a_o_was, .int o_isKept, .ref a_o_triangle, .int u_10.2.2, .ref a_o_text, .int o_fed, .int o_place, .int o_letter, .int o_first, .int o_second, .ref a_o_sort, .ref a_o_size, .ref a_o_items])), (a_o_g, .inl (cI, 64, .inl o_g)), (a_o_triangle, .inl (cI, 16384, .inl u_10.2.1))]) rfl (fun H locs hP hS => W.eq (g2 := F0 m 83 ls [.int u_10.1, .int u_5.1]) rfl ?_)
              have hJ_11 : ∀ (y_12 : Int32) (ey_12 : y_12 = (if (u_5.1 ≤ u_10.1) then v5_32 else v6_32)) (ls : Array Slot), lv_has ls 8 [(0, .ref a_o), (1, .int v1_32), (2, .int v2_32), (3, .int (v3_32 + (if (u_5.1 = 0) then (1 : Int32) else (0 : Int32)))), (4, .int (if (¬ (u_5.1 = 0)) then v4_32 else v6_32)), (6, .int v6_32)] → W p l e rmX7_upTo s m args below meth c H locs 0 0 Q (F0 m 93 ls [.int y_12]) := by
                intro y_12 ey_12 ls hl
                subst ey_12
                refine lv_istore (lv' := [(5, .int (if (u_5.1 ≤ u_10.1) then v5_32 else v6_32)), (0, .ref a_o), (1, .int v1_32), (2, .int v2_32), (3, .int (v3_32 + (if (u_5.1 = 0) then (1 : Int32) else (0 : Int32)))), (4, .int (if (¬ (u_5.1 = 0)) then v4_32 else v6_32)), (6, .int v6_32)]) hx hb dX7_upTo_93 hl (by decide) rfl (fun ls hl => ?_)
                refine lv_iinc (v := (v6_32 + (1 : Int32))) (lv' := [(6, .int (v6_32 + (1 : Int32))), (5, .int (if (u_5.1 ≤ u_10.1) then v5_32 else v6_32)), (0, .ref a_o), (1, .int v1_32), (2, .int v2_32), (3, .int (v3_32 + (if (u_5.1 = 0) then (1 : Int32) else (0 : Int32)))), (4, .int (if (¬ (u_5.1 = 0)) then v4_32 else v6_32))]) hx hb dX7_upTo_95 hl (k := 6) rfl (congrArg (fun z => v6_32 + z) (by decide)) (by decide) rfl (fun ls hl => ?_)
                refine lv_goto (tgt := 32) hx hb dX7_upTo_98 (by decide) ?_
                exact ih (v3_32 + (if (u_5.1 = 0) then (1 : Int32) else (0 : Int32))) (if (¬ (u_5.1 = 0)) then v4_32 else v6_32) (if (u_5.1 ≤ u_10.1) then v5_32 else v6_32) (v6_32 + (1 : Int32)) u_10.2.1 u_10.2.2 ls (lv_sub hl [2, 3, 4, 5, 6, 1, 0] rfl) H locs hP hS hr
              refine lv_icmp_le (tgt := 91) hx hb dX7_upTo_83 (by decide) (fun c_13 => ?_) (fun c_13 => ?_)
              · refine lv_iload hx hb dX7_upTo_91 (lv_at hl 5 rfl) ?_
                exact hJ_11 _ (if_pos c_13).symm ls (lv_sub hl [1, 2, 3, 4, 0, 6] rfl)
              · refine lv_iload hx hb dX7_upTo_86 (lv_at hl 6 rfl) ?_
                refine lv_goto (tgt := 93) hx hb dX7_upTo_88 (by decide) ?_
                exact hJ_11 _ (if_neg c_13).symm ls (lv_sub hl [1, 2, 3, 4, 0, 6] rfl)
            refine lv_if_ne (tgt := 70) hx hb dX7_upTo_62 (by decide) (fun c_14 => ?_) (fun c_14 => ?_)
            · refine lv_iload hx hb dX7_upTo_70 (lv_at hl 4 rfl) ?_
              exact hJ_8 _ (if_pos c_14).symm ls (lv_sub hl [1, 2, 3, 0, 5, 6, 7] rfl)
            · refine lv_iload hx hb dX7_upTo_65 (lv_at hl 6 rfl) ?_
              refine lv_goto (tgt := 72) hx hb dX7_upTo_67 (by decide) ?_
              exact hJ_8 _ (if_neg (fun h => h c_14)).symm ls (lv_sub hl [1, 2, 3, 0, 5, 6, 7] rfl)
          refine lv_if_ne (tgt := 57) hx hb dX7_upTo_50 (by decide) (fun c_15 => ?_) (fun c_15 => ?_)
          · refine lv_iconst (v := (0 : Int32)) hx hb dX7_upTo_57 (by decide) ?_
            exact hJ_6 _ (if_neg c_15).symm ls (lv_sub hl [1, 2, 3, 5, 6, 7, 0] rfl)
          · refine lv_iconst (v := (1 : Int32)) hx hb dX7_upTo_53 (by decide) ?_
            refine lv_goto (tgt := 58) hx hb dX7_upTo_54 (by decide) ?_
            exact hJ_6 _ (if_pos c_15).symm ls (lv_sub hl [1, 2, 3, 5, 6, 7, 0] rfl)
    refine hL32 p0 p1 _ (fun x3_32 x4_32 x5_32 xc_o_triangle_32 xc_o_takenBy_32 ls hl H locs hP hS hr => ?_) 5000 (0 : Int32) (0 : Int32) (0 : Int32) (0 : Int32) o_triangle o_takenBy ls (lv_sub hl [4, 5, 6, 3, 2, 1, 0] rfl) H locs hP hS hr
    refine lv_iload_n hx hb dX7_upTo_101 rfl (lv_at hl 0 rfl) ?_
    have hJ_16 : ∀ (y_17 : Int32) (ey_17 : y_17 = (if (p1 = 0) then x3_32 else (if (p1 = (1 : Int32)) then x4_32 else x5_32))) (ls : Array Slot), lv_has ls 8 [] → W p l e rmX7_upTo s m args below meth c H locs 0 0 Q (F0 m 121 ls [.int y_17]) := by
      intro y_17 ey_17 ls hl
      have hr := qn_e hr ey_17
      obtain rfl := Option.some.inj hr
      exact hret H locs _ hP hS (fun Qc free hq hf => W.iret hx hb hrt hq hf dX7_upTo_121 hlocks)
    refine lv_if_ne (tgt := 109) hx hb dX7_upTo_102 (by decide) (fun c_18 => ?_) (fun c_18 => ?_)
    · refine lv_iload_n hx hb dX7_upTo_109 rfl (lv_at hl 0 rfl) ?_
      refine lv_iconst (v := (1 : Int32)) hx hb dX7_upTo_110 (by decide) ?_
      refine lv_icmp_ne (tgt := 119) hx hb dX7_upTo_111 (by decide) (fun c_19 => ?_) (fun c_19 => ?_)
      · refine lv_iload hx hb dX7_upTo_119 (lv_at hl 3 rfl) ?_
        exact hJ_16 _ ((if_neg c_18).trans (if_neg c_19)).symm ls (lv_sub hl [] rfl)
      · refine lv_iload hx hb dX7_upTo_114 (lv_at hl 2 rfl) ?_
        refine lv_goto (tgt := 121) hx hb dX7_upTo_116 (by decide) ?_
        exact hJ_16 _ ((if_neg c_18).trans (if_pos c_19)).symm ls (lv_sub hl [] rfl)
    · refine lv_iload_n hx hb dX7_upTo_105 rfl (lv_at hl 1 rfl) ?_
      refine lv_goto (tgt := 121) hx hb dX7_upTo_106 (by decide) ?_
      exact hJ_16 _ (if_pos c_18).symm ls (lv_sub hl [] rfl)
  refine lv_if_eq (tgt := 19) hx hb dX7_upTo_4 (by decide) (fun c_20 => ?_) (fun c_20 => ?_)
  · exact tT_2 (Or.inl c_20)
  · refine lv_iload_n hx hb dX7_upTo_7 rfl (lv_at hl 2 rfl) ?_
    refine lv_i2l (v := (Int32.toInt64 p1)) hx hb dX7_upTo_8 rfl ?_
    refine lv_lconst (v := (0 : Int64)) hx hb dX7_upTo_9 (by decide) ?_
    refine lv_ldc2 (v := (2 : Int64)) hx hb hown (hts (.constantLong RX7 170 (2)) (List.mem_of_getElem? (i := 1) rfl)) dX7_upTo_10 ?_
    refine ro_S ⟨hx, hb, hml, hown, hts⟩ (k_X7_isIn l dC dI cI cJ (Int32.toInt64 p1) (0 : Int64) (2 : Int64)) (va_cwS 3 hts gX7_upTo_X7_isIn rfl rfl rfl (by decide +kernel) ⟨Nat.le_of_ble_eq_true rfl, Nat.le_of_ble_eq_true rfl⟩) hE (hP.sub [] rfl) rfl hl.1 rfl (Nat.le_of_ble_eq_true rfl) dX7_upTo_13 ⟨Nat.zero_le _, Nat.zero_le _⟩ ?_
    refine lv_if_ne (tgt := 21) hx hb dX7_upTo_16 (by decide) (fun c_21 => ?_) (fun c_21 => ?_)
    · exact tF_3 (fun h => h.elim c_20 c_21)
    · exact tT_2 (Or.inr c_21)
/-! X7_picture -/
def rmX7_picture : Room := { frames := 5, cells := 0, slots := 0, locals := 112 }
set_option maxHeartbeats 4000000 in
set_option maxRecDepth 100000 in
theorem k_X7_picture (l : Launch) (dC : Nat → ClassId) (dI : Nat → Nat → Nat) (cI cJ : ClassId) (a_o : Nat) (a_o_g : Nat) (a_o_kept : Nat) (a_o_was : Nat) (a_o_triangle : Nat) (a_o_text : Nat) (a_o_sort : Nat) (a_o_size : Nat) (a_o_items : Nat) (p0 : Int32) (o_isKept : Int32) (o_takenBy : Int32) (o_fed : Int32) (o_place : Int32) (o_letter : Int32) (o_first : Int32) (o_second : Int32) (o_g : Nat → Int32) (o_triangle : Nat → Int32) (sz : Nat) (r : Int32 × (Nat → Int32) × Int32) (hr : f_X7_picture p0 o_g o_triangle o_takenBy = some r) : Met l yX7_picture wsX7_picture rmX7_picture (va_Pc [.ref a_o, .int p0] (pM (dC, dI) cI cJ [(a_o, .inr (6, [.ref a_o_g, .ref a_o_kept, .ref a_o_was, .int o_isKept, .ref a_o_triangle, .int o_takenBy, .ref a_o_text, .int o_fed, .int o_place, .int o_letter, .int o_first, .int o_second, .ref a_o_sort, .ref a_o_size, .ref a_o_items])), (a_o_g, .inl (cI, 64, .inl o_g)), (a_o_triangle, .inl (cI, 16384, .inl o_triangle))] sz)) (qM (some (.int r.1)) (dC, dI) [(a_o, .inr (6, [.ref a_o_g, .ref a_o_kept, .ref a_o_was, .int o_isKept, .ref a_o_triangle, .int r.2.2, .ref a_o_text, .int o_fed, .int o_place, .int o_letter, .int o_first, .int o_second, .ref a_o_sort, .ref a_o_size, .ref a_o_items])), (a_o_g, .inl (cI, 64, .inl o_g)), (a_o_triangle, .inl (cI, 16384, .inl r.2.1))] (va_A [(a_o, .inr (6, [.ref a_o_g, .ref a_o_kept, .ref a_o_was, .int o_isKept, .ref a_o_triangle, .int o_takenBy, .ref a_o_text, .int o_fed, .int o_place, .int o_letter, .int o_first, .int o_second, .ref a_o_sort, .ref a_o_size, .ref a_o_items])), (a_o_g, .inl (cI, 64, .inl o_g)), (a_o_triangle, .inl (cI, 16384, .inl o_triangle))] sz)) 0 0 (va_A [(a_o, .inr (6, [.ref a_o_g, .ref a_o_kept, .ref a_o_was, .int o_isKept, .ref a_o_triangle, .int o_takenBy, .ref a_o_text, .int o_fed, .int o_place, .int o_letter, .int o_first, .int o_second, .ref a_o_sort, .ref a_o_size, .ref a_o_items])), (a_o_g, .inl (cI, 64, .inl o_g)), (a_o_triangle, .inl (cI, 16384, .inl o_triangle))] sz) := by
  refine mu_of (cc := cX7_picture) (maxL := 4) (by decide) rfl (Nat.le_of_ble_eq_true rfl) ?_
  intro p e s m args below meth c Q ls A hx hb hml hown hts hE hP hD hA hrt hlocks hret hl
  have hK := hE.1
  have hS : va_S A s.heap s.heap [] := va_S.rf
  have hl : lv_has ls 4 [(0, .ref a_o), (1, .int p0)] := hl
  unfold f_X7_picture at hr
  obtain ⟨H, hHe⟩ : ∃ H, H = s.heap := ⟨_, rfl⟩
  obtain ⟨locs, hLe⟩ : ∃ locs : List Loc, locs = [] := ⟨_, rfl⟩
  suffices hgo : va_P (dC, dI) vwCl [(a_o, .inr (6, [.ref a_o_g, .ref a_o_kept, .ref a_o_was, .int o_isKept, .ref a_o_triangle, .int o_takenBy, .ref a_o_text, .int o_fed, .int o_place, .int o_letter, .int o_first, .int o_second, .ref a_o_sort, .ref a_o_size, .ref a_o_items])), (a_o_g, .inl (cI, 64, .inl o_g)), (a_o_triangle, .inl (cI, 16384, .inl o_triangle))] H → va_S A s.heap H locs → W p l e rmX7_picture s m args below meth c H locs 0 0 Q (F0 m 0 ls []) by
    subst hHe; subst hLe; exact hgo hP hS
  clear hP hS hHe hLe
  intro hP hS
  have iX7 : ∀ w ∈ wsX70, w ∈ wsX7_picture := memr_ (big := wsX7_picture) wsX70 [58, 59, 60, 61, 62, 63, 64, 65, 66, 67, 68, 69, 70, 71, 72] (by decide +kernel)
  refine lv_iload_n hx hb dX7_picture_0 rfl (lv_at hl 1 rfl) ?_
  refine lv_i2l (v := (Int32.toInt64 p0)) hx hb dX7_picture_1 rfl ?_
  refine lv_lconst (v := (0 : Int64)) hx hb dX7_picture_2 (by decide) ?_
  refine lv_ldc2 (v := (7 : Int64)) hx hb hown (hts (.constantLong RX7 172 (7)) (List.mem_of_getElem? (i := 1) rfl)) dX7_picture_3 ?_
  refine ro_S ⟨hx, hb, hml, hown, hts⟩ (k_X7_isIn l dC dI cI cJ (Int32.toInt64 p0) (0 : Int64) (7 : Int64)) (va_cwS 3 hts gX7_picture_X7_isIn rfl rfl rfl (by decide +kernel) ⟨Nat.le_of_ble_eq_true rfl, Nat.le_of_ble_eq_true rfl⟩) hE (hP.sub [] rfl) rfl hl.1 rfl (Nat.le_of_ble_eq_true rfl) dX7_picture_6 ⟨Nat.zero_le _, Nat.zero_le _⟩ ?_
  refine lv_if_ne (tgt := 14) hx hb dX7_picture_9 (by decide) (fun c_1 => ?_) (fun c_1 => ?_)
  · have hr := ite_n hr c_1
    refine lv_iconst (v := (0 : Int32)) hx hb dX7_picture_14 (by decide) ?_
    refine lv_istore_n (lv' := [(2, .int (0 : Int32)), (0, .ref a_o), (1, .int p0)]) hx hb dX7_picture_15 rfl hl (by decide) rfl (fun ls hl => ?_)
    refine lv_iconst (v := (0 : Int32)) hx hb dX7_picture_16 (by decide) ?_
    refine lv_istore_n (lv' := [(3, .int (0 : Int32)), (2, .int (0 : Int32)), (0, .ref a_o), (1, .int p0)]) hx hb dX7_picture_17 rfl hl (by decide) rfl (fun ls hl => ?_)
    have hL18 : ∀ (v1_18 : Int32) (k_18 : Int32 → (Nat → Int32) → (Int32) → Option (Int32 × (Nat → Int32) × Int32)) (hk : ∀ (x2_18 : Int32) (xc_o_triangle_18 : Nat → Int32) (xc_o_takenBy_18 : Int32) (ls : Array Slot), lv_has ls 4 [(2, .int x2_18)] → ∀ (H : Heap) (locs : List Loc), va_P (dC, dI) vwCl [(a_o, .inr (6, [.ref a_o_g, .ref a_o_kept, .ref a_o_was, .int o_isKept, .ref a_o_triangle, .int xc_o_takenBy_18, .ref a_o_text, .int o_fed, .int o_place, .int o_letter, .int o_first, .int o_second, .ref a_o_sort, .ref a_o_size, .ref a_o_items])), (a_o_g, .inl (cI, 64, .inl o_g)), (a_o_triangle, .inl (cI, 16384, .inl xc_o_triangle_18))] H → va_S A s.heap H locs →  k_18 x2_18 xc_o_triangle_18 xc_o_takenBy_18 = some r → W p l e rmX7_picture s m args below meth c H locs 0 0 Q (F0 m 63 ls [])) (fuel : Nat) (v2_18 : Int32) (v3_18 : Int32) (o_triangle_18 : Nat → Int32) (o_takenBy_18 : Int32) (ls : Array Slot), lv_has ls 4 [(0, .ref a_o), (1, .int v1_18), (2, .int v2_18), (3, .int v3_18)] → ∀ (H : Heap) (locs : List Loc), va_P (dC, dI) vwCl [(a_o, .inr (6, [.ref a_o_g, .ref a_o_kept, .ref a_o_was, .int o_isKept, .ref a_o_triangle, .int o_takenBy_18, .ref a_o_text, .int o_fed, .int o_place, .int o_letter, .int o_first, .int o_second, .ref a_o_sort, .ref a_o_size, .ref a_o_items])), (a_o_g, .inl (cI, 64, .inl o_g)), (a_o_triangle, .inl (cI, 16384, .inl o_triangle_18))] H → va_S A s.heap H locs → f_X7_picture_L18 k_18 v1_18 o_g fuel v2_18 v3_18 o_triangle_18 o_takenBy_18 = some r → W p l e rmX7_picture s m args below meth c H locs 0 0 Q (F0 m 18 ls []) := by
      intro v1_18 k_18 hk fuel
      induction fuel with
      | zero =>
        intro v2_18 v3_18 o_triangle_18 o_takenBy_18 ls hl H locs hP hS hr
        rw [f_X7_picture_L18_z] at hr
        cases hr
      | succ fuel ih =>
        intro v2_18 v3_18 o_triangle_18 o_takenBy_18 ls hl H locs hP hS hr
        rw [f_X7_picture_L18_s] at hr
        refine lv_iload_n hx hb dX7_picture_18 rfl (lv_at hl 3 rfl) ?_
        refine lv_bipush (v := (8 : Int32)) hx hb dX7_picture_19 (by decide) ?_
        refine lv_icmp_ge (tgt := 63) hx hb dX7_picture_21 (by decide) (fun c_2 => ?_) (fun c_2 => ?_)
        · have hr := ite_p hr c_2
          exact hk v2_18 o_triangle_18 o_takenBy_18 ls (lv_sub hl [2] rfl) H locs hP hS hr
        · have hr := ite_n hr c_2
          refine lv_iload_n hx hb dX7_picture_24 rfl (lv_at hl 2 rfl) ?_
          refine lv_aload_n hx hb dX7_picture_25 rfl (lv_at hl 0 rfl) ?_
          refine lv_aload_n hx hb dX7_picture_26 rfl (lv_at hl 0 rfl) ?_
          refine va_get (D := (dC, dI)) (ci := 6) (v := .ref a_o_g) (C := RX7) (T := TX7) (N := 15) hx hb hts iX7 hown hK hP 0 rfl rfl 0 (by decide) (hts (.fieldLink RX7 11 "PascalRowsModel" "g" "[I") (List.mem_of_getElem? (i := 2) rfl)) (fun _ h9 => h9) rfl dX7_picture_27 ?_
          refine lv_iconst (v := (2 : Int32)) hx hb dX7_picture_30 (by decide) ?_
          obtain ⟨g_3, eg_3, hg_3, hr⟩ := rd_e hr
          refine va_iald hx hb hK hP 1 0 rfl rfl hg_3 dX7_picture_31 ?_
          refine tp_ eg_3 ?_
          refine lv_iload_n hx hb dX7_picture_32 rfl (lv_at hl 1 rfl) ?_
          refine lv_iadd hx hb dX7_picture_33 ?_
          refine lv_aload_n hx hb dX7_picture_34 rfl (lv_at hl 0 rfl) ?_
          refine va_get (D := (dC, dI)) (ci := 6) (v := .ref a_o_g) (C := RX7) (T := TX7) (N := 15) hx hb hts iX7 hown hK hP 0 rfl rfl 0 (by decide) (hts (.fieldLink RX7 11 "PascalRowsModel" "g" "[I") (List.mem_of_getElem? (i := 2) rfl)) (fun _ h9 => h9) rfl dX7_picture_35 ?_
          refine lv_iconst (v := (3 : Int32)) hx hb dX7_picture_38 (by decide) ?_
          obtain ⟨g_4, eg_4, hg_4, hr⟩ := rd_e hr
          refine va_iald hx hb hK hP 1 0 rfl rfl hg_4 dX7_picture_39 ?_
          refine tp_ eg_4 ?_
          refine lv_iload_n hx hb dX7_picture_40 rfl (lv_at hl 3 rfl) ?_
          refine lv_iadd hx hb dX7_picture_41 ?_
          obtain ⟨u_5, hu_5, hr⟩ := bd_e hr
          refine mu_V ⟨hx, hb, hml, hown, hts⟩ (k_X7_isMarked l dC dI cI cJ a_o a_o_g a_o_kept a_o_was a_o_triangle a_o_text a_o_sort a_o_size a_o_items (g_3 + v1_18) (g_4 + v3_18) o_isKept o_takenBy_18 o_fed o_place o_letter o_first o_second o_g o_triangle_18 H.size u_5 hu_5) (cwV 2 hts gX7_picture_X7_isMarked rfl rfl rfl (by decide +kernel) ⟨Nat.le_of_ble_eq_true rfl, Nat.le_of_ble_eq_true rfl⟩) hE 0 rfl rfl rfl rfl hl.1 rfl (Nat.le_of_ble_eq_true rfl) dX7_picture_42 ⟨Nat.zero_le _, Nat.zero_le _⟩ hP (hD.fst rfl) hS hA [0, 1, 2] [] [0, 1, 2] rfl rfl (by decide) (by decide) rfl (by decide) (W1 := [(a_o, .inr (6, [.ref a_o_g, .ref a_o_kept, .ref a_o_was, .int o_isKept, .ref a_o_triangle, .int u_5.2.2, .ref a_o_text, .int o_fed, .int o_place, .int o_letter, .int o_first, .int o_second, .ref a_o_sort, .ref a_o_size, .ref a_o_items])), (a_o_g, .inl (cI, 64, .inl o_g)), (a_o_triangle, .inl (cI, 16384, .inl u_5.2.1))]) rfl (fun H locs hP hS => W.eq (g2 := F0 m 45 ls [.int u_5.1, .int v2_18]) rfl ?_)
          have hJ_6 : ∀ (y_7 : Int32) (ey_7 : y_7 = (if (u_5.1 = 0) then (0 : Int32) else ((1 : Int32) <<< (v3_18 &&& 31)))) (ls : Array Slot), lv_has ls 4 [(0, .ref a_o), (1, .int v1_18), (3, .int v3_18)] → W p l e rmX7_picture s m args below meth c H locs 0 0 Q (F0 m 55 ls [.int y_7, .int v2_18]) := by
            intro y_7 ey_7 ls hl
            have hr := qn_e hr ey_7
            refine lv_ior hx hb dX7_picture_55 ?_
            refine lv_istore_n (lv' := [(2, .int (v2_18 ||| y_7)), (0, .ref a_o), (1, .int v1_18), (3, .int v3_18)]) hx hb dX7_picture_56 rfl hl (by decide) rfl (fun ls hl => ?_)
            refine lv_iinc (v := (v3_18 + (1 : Int32))) (lv' := [(3, .int (v3_18 + (1 : Int32))), (2, .int (v2_18 ||| y_7)), (0, .ref a_o), (1, .int v1_18)]) hx hb dX7_picture_57 hl (k := 3) rfl (congrArg (fun z => v3_18 + z) (by decide)) (by decide) rfl (fun ls hl => ?_)
            refine lv_goto (tgt := 18) hx hb dX7_picture_60 (by decide) ?_
            exact ih (v2_18 ||| y_7) (v3_18 + (1 : Int32)) u_5.2.1 u_5.2.2 ls (lv_sub hl [2, 3, 1, 0] rfl) H locs hP hS hr
          refine lv_if_eq (tgt := 54) hx hb dX7_picture_45 (by decide) (fun c_8 => ?_) (fun c_8 => ?_)
          · refine lv_iconst (v := (0 : Int32)) hx hb dX7_picture_54 (by decide) ?_
            exact hJ_6 _ (if_pos c_8).symm ls (lv_sub hl [0, 1, 3] rfl)
          · refine lv_iconst (v := (1 : Int32)) hx hb dX7_picture_48 (by decide) ?_
            refine lv_iload_n hx hb dX7_picture_49 rfl (lv_at hl 3 rfl) ?_
            refine lv_ishl hx hb dX7_picture_50 ?_
            refine lv_goto (tgt := 55) hx hb dX7_picture_51 (by decide) ?_
            exact hJ_6 _ (if_neg c_8).symm ls (lv_sub hl [0, 1, 3] rfl)
    refine hL18 p0 _ (fun x2_18 xc_o_triangle_18 xc_o_takenBy_18 ls hl H locs hP hS hr => ?_) 5000 (0 : Int32) (0 : Int32) o_triangle o_takenBy ls (lv_sub hl [2, 3, 1, 0] rfl) H locs hP hS hr
    refine lv_iload_n hx hb dX7_picture_63 rfl (lv_at hl 0 rfl) ?_
    obtain rfl := Option.some.inj hr
    exact hret H locs _ hP hS (fun Qc free hq hf => W.iret hx hb hrt hq hf dX7_picture_64 hlocks)
  · have hr := ite_p hr c_1
    refine lv_iconst (v := (-1 : Int32)) hx hb dX7_picture_12 (by decide) ?_
    obtain rfl := Option.some.inj hr
    exact hret H locs _ hP hS (fun Qc free hq hf => W.iret hx hb hrt hq hf dX7_picture_13 hlocks)
/-! X7_areLike -/
def rmX7_areLike : Room := { frames := 3, cells := 0, slots := 0, locals := 65 }
set_option maxHeartbeats 4000000 in
set_option maxRecDepth 100000 in
theorem k_X7_areLike (l : Launch) (dC : Nat → ClassId) (dI : Nat → Nat → Nat) (cI cJ : ClassId) (a_o : Nat) (a_o_g : Nat) (a_o_kept : Nat) (a_o_was : Nat) (a_o_triangle : Nat) (a_o_text : Nat) (a_o_sort : Nat) (a_o_size : Nat) (a_o_items : Nat) (p0 : Int32) (p1 : Int32) (p2 : Int32) (p3 : Int32) (p4 : Int32) (o_isKept : Int32) (o_takenBy : Int32) (o_fed : Int32) (o_place : Int32) (o_letter : Int32) (o_first : Int32) (o_second : Int32) (o_g : Nat → Int32) (o_triangle : Nat → Int32) (sz : Nat) (r : Int32 × (Nat → Int32) × Int32) (hr : f_X7_areLike p0 p1 p2 p3 p4 o_g o_triangle o_takenBy = some r) : Met l yX7_areLike wsX7_areLike rmX7_areLike (va_Pc [.ref a_o, .int p0, .int p1, .int p2, .int p3, .int p4] (pM (dC, dI) cI cJ [(a_o, .inr (6, [.ref a_o_g, .ref a_o_kept, .ref a_o_was, .int o_isKept, .ref a_o_triangle, .int o_takenBy, .ref a_o_text, .int o_fed, .int o_place, .int o_letter, .int o_first, .int o_second, .ref a_o_sort, .ref a_o_size, .ref a_o_items])), (a_o_g, .inl (cI, 64, .inl o_g)), (a_o_triangle, .inl (cI, 16384, .inl o_triangle))] sz)) (qM (some (.int r.1)) (dC, dI) [(a_o, .inr (6, [.ref a_o_g, .ref a_o_kept, .ref a_o_was, .int o_isKept, .ref a_o_triangle, .int r.2.2, .ref a_o_text, .int o_fed, .int o_place, .int o_letter, .int o_first, .int o_second, .ref a_o_sort, .ref a_o_size, .ref a_o_items])), (a_o_g, .inl (cI, 64, .inl o_g)), (a_o_triangle, .inl (cI, 16384, .inl r.2.1))] (va_A [(a_o, .inr (6, [.ref a_o_g, .ref a_o_kept, .ref a_o_was, .int o_isKept, .ref a_o_triangle, .int o_takenBy, .ref a_o_text, .int o_fed, .int o_place, .int o_letter, .int o_first, .int o_second, .ref a_o_sort, .ref a_o_size, .ref a_o_items])), (a_o_g, .inl (cI, 64, .inl o_g)), (a_o_triangle, .inl (cI, 16384, .inl o_triangle))] sz)) 0 0 (va_A [(a_o, .inr (6, [.ref a_o_g, .ref a_o_kept, .ref a_o_was, .int o_isKept, .ref a_o_triangle, .int o_takenBy, .ref a_o_text, .int o_fed, .int o_place, .int o_letter, .int o_first, .int o_second, .ref a_o_sort, .ref a_o_size, .ref a_o_items])), (a_o_g, .inl (cI, 64, .inl o_g)), (a_o_triangle, .inl (cI, 16384, .inl o_triangle))] sz) := by
  refine mu_of (cc := cX7_areLike) (maxL := 9) (by decide) rfl (Nat.le_of_ble_eq_true rfl) ?_
  intro p e s m args below meth c Q ls A hx hb hml hown hts hE hP hD hA hrt hlocks hret hl
  have hK := hE.1
  have hS : va_S A s.heap s.heap [] := va_S.rf
  have hl : lv_has ls 9 [(0, .ref a_o), (1, .int p0), (2, .int p1), (3, .int p2), (4, .int p3), (5, .int p4)] := hl
  unfold f_X7_areLike at hr
  obtain ⟨H, hHe⟩ : ∃ H, H = s.heap := ⟨_, rfl⟩
  obtain ⟨locs, hLe⟩ : ∃ locs : List Loc, locs = [] := ⟨_, rfl⟩
  suffices hgo : va_P (dC, dI) vwCl [(a_o, .inr (6, [.ref a_o_g, .ref a_o_kept, .ref a_o_was, .int o_isKept, .ref a_o_triangle, .int o_takenBy, .ref a_o_text, .int o_fed, .int o_place, .int o_letter, .int o_first, .int o_second, .ref a_o_sort, .ref a_o_size, .ref a_o_items])), (a_o_g, .inl (cI, 64, .inl o_g)), (a_o_triangle, .inl (cI, 16384, .inl o_triangle))] H → va_S A s.heap H locs → W p l e rmX7_areLike s m args below meth c H locs 0 0 Q (F0 m 0 ls []) by
    subst hHe; subst hLe; exact hgo hP hS
  clear hP hS hHe hLe
  intro hP hS
  have iX7 : ∀ w ∈ wsX70, w ∈ wsX7_areLike := memr_ (big := wsX7_areLike) wsX70 [24, 25, 26, 27, 28, 29, 30, 31, 32, 33, 34, 35, 36, 37, 38] (by decide +kernel)
  refine lv_iconst (v := (1 : Int32)) hx hb dX7_areLike_0 (by decide) ?_
  refine lv_istore (lv' := [(6, .int (1 : Int32)), (0, .ref a_o), (1, .int p0), (2, .int p1), (3, .int p2), (4, .int p3), (5, .int p4)]) hx hb dX7_areLike_1 hl (by decide) rfl (fun ls hl => ?_)
  refine lv_iconst (v := (0 : Int32)) hx hb dX7_areLike_3 (by decide) ?_
  refine lv_istore (lv' := [(7, .int (0 : Int32)), (6, .int (1 : Int32)), (0, .ref a_o), (1, .int p0), (2, .int p1), (3, .int p2), (4, .int p3), (5, .int p4)]) hx hb dX7_areLike_4 hl (by decide) rfl (fun ls hl => ?_)
  have hL6 : ∀ (v1_6 : Int32) (v2_6 : Int32) (v3_6 : Int32) (v4_6 : Int32) (v5_6 : Int32) (k_6 : Int32 → (Nat → Int32) → (Int32) → Option (Int32 × (Nat → Int32) × Int32)) (hk : ∀ (x6_6 : Int32) (xc_o_triangle_6 : Nat → Int32) (xc_o_takenBy_6 : Int32) (ls : Array Slot), lv_has ls 9 [(6, .int x6_6)] → ∀ (H : Heap) (locs : List Loc), va_P (dC, dI) vwCl [(a_o, .inr (6, [.ref a_o_g, .ref a_o_kept, .ref a_o_was, .int o_isKept, .ref a_o_triangle, .int xc_o_takenBy_6, .ref a_o_text, .int o_fed, .int o_place, .int o_letter, .int o_first, .int o_second, .ref a_o_sort, .ref a_o_size, .ref a_o_items])), (a_o_g, .inl (cI, 64, .inl o_g)), (a_o_triangle, .inl (cI, 16384, .inl xc_o_triangle_6))] H → va_S A s.heap H locs →  k_6 x6_6 xc_o_triangle_6 xc_o_takenBy_6 = some r → W p l e rmX7_areLike s m args below meth c H locs 0 0 Q (F0 m 73 ls [])) (fuel : Nat) (v6_6 : Int32) (v7_6 : Int32) (o_triangle_6 : Nat → Int32) (o_takenBy_6 : Int32) (ls : Array Slot), lv_has ls 9 [(0, .ref a_o), (1, .int v1_6), (2, .int v2_6), (3, .int v3_6), (4, .int v4_6), (5, .int v5_6), (6, .int v6_6), (7, .int v7_6)] → ∀ (H : Heap) (locs : List Loc), va_P (dC, dI) vwCl [(a_o, .inr (6, [.ref a_o_g, .ref a_o_kept, .ref a_o_was, .int o_isKept, .ref a_o_triangle, .int o_takenBy_6, .ref a_o_text, .int o_fed, .int o_place, .int o_letter, .int o_first, .int o_second, .ref a_o_sort, .ref a_o_size, .ref a_o_items])), (a_o_g, .inl (cI, 64, .inl o_g)), (a_o_triangle, .inl (cI, 16384, .inl o_triangle_6))] H → va_S A s.heap H locs → f_X7_areLike_L6 k_6 v1_6 v2_6 v3_6 v4_6 v5_6 o_g fuel v6_6 v7_6 o_triangle_6 o_takenBy_6 = some r → W p l e rmX7_areLike s m args below meth c H locs 0 0 Q (F0 m 6 ls []) := by
    intro v1_6 v2_6 v3_6 v4_6 v5_6 k_6 hk fuel
    induction fuel with
    | zero =>
      intro v6_6 v7_6 o_triangle_6 o_takenBy_6 ls hl H locs hP hS hr
      rw [f_X7_areLike_L6_z] at hr
      cases hr
    | succ fuel ih =>
      intro v6_6 v7_6 o_triangle_6 o_takenBy_6 ls hl H locs hP hS hr
      rw [f_X7_areLike_L6_s] at hr
      refine lv_iload hx hb dX7_areLike_6 (lv_at hl 7 rfl) ?_
      refine lv_iload hx hb dX7_areLike_8 (lv_at hl 5 rfl) ?_
      refine lv_icmp_ge (tgt := 73) hx hb dX7_areLike_10 (by decide) (fun c_1 => ?_) (fun c_1 => ?_)
      · have hr := ite_p hr c_1
        exact hk v6_6 o_triangle_6 o_takenBy_6 ls (lv_sub hl [6] rfl) H locs hP hS hr
      · have hr := ite_n hr c_1
        refine lv_iconst (v := (0 : Int32)) hx hb dX7_areLike_13 (by decide) ?_
        refine lv_istore (lv' := [(8, .int (0 : Int32)), (0, .ref a_o), (1, .int v1_6), (2, .int v2_6), (3, .int v3_6), (4, .int v4_6), (5, .int v5_6), (6, .int v6_6), (7, .int v7_6)]) hx hb dX7_areLike_14 hl (by decide) rfl (fun ls hl => ?_)
        have hL16 : ∀ (v1_16 : Int32) (v2_16 : Int32) (v3_16 : Int32) (v4_16 : Int32) (v5_16 : Int32) (v7_16 : Int32) (k_16 : Int32 → (Nat → Int32) → (Int32) → Option (Int32 × (Nat → Int32) × Int32)) (hk : ∀ (x6_16 : Int32) (xc_o_triangle_16 : Nat → Int32) (xc_o_takenBy_16 : Int32) (ls : Array Slot), lv_has ls 9 [(0, .ref a_o), (1, .int v1_16), (2, .int v2_16), (3, .int v3_16), (4, .int v4_16), (5, .int v5_16), (6, .int x6_16), (7, .int v7_16)] → ∀ (H : Heap) (locs : List Loc), va_P (dC, dI) vwCl [(a_o, .inr (6, [.ref a_o_g, .ref a_o_kept, .ref a_o_was, .int o_isKept, .ref a_o_triangle, .int xc_o_takenBy_16, .ref a_o_text, .int o_fed, .int o_place, .int o_letter, .int o_first, .int o_second, .ref a_o_sort, .ref a_o_size, .ref a_o_items])), (a_o_g, .inl (cI, 64, .inl o_g)), (a_o_triangle, .inl (cI, 16384, .inl xc_o_triangle_16))] H → va_S A s.heap H locs →  k_16 x6_16 xc_o_triangle_16 xc_o_takenBy_16 = some r → W p l e rmX7_areLike s m args below meth c H locs 0 0 Q (F0 m 67 ls [])) (fuel : Nat) (v6_16 : Int32) (v8_16 : Int32) (o_triangle_16 : Nat → Int32) (o_takenBy_16 : Int32) (ls : Array Slot), lv_has ls 9 [(0, .ref a_o), (1, .int v1_16), (2, .int v2_16), (3, .int v3_16), (4, .int v4_16), (5, .int v5_16), (6, .int v6_16), (7, .int v7_16), (8, .int v8_16)] → ∀ (H : Heap) (locs : List Loc), va_P (dC, dI) vwCl [(a_o, .inr (6, [.ref a_o_g, .ref a_o_kept, .ref a_o_was, .int o_isKept, .ref a_o_triangle, .int o_takenBy_16, .ref a_o_text, .int o_fed, .int o_place, .int o_letter, .int o_first, .int o_second, .ref a_o_sort, .ref a_o_size, .ref a_o_items])), (a_o_g, .inl (cI, 64, .inl o_g)), (a_o_triangle, .inl (cI, 16384, .inl o_triangle_16))] H → va_S A s.heap H locs → f_X7_areLike_L16 k_16 v1_16 v2_16 v3_16 v4_16 v5_16 v7_16 o_g fuel v6_16 v8_16 o_triangle_16 o_takenBy_16 = some r → W p l e rmX7_areLike s m args below meth c H locs 0 0 Q (F0 m 16 ls []) := by
          intro v1_16 v2_16 v3_16 v4_16 v5_16 v7_16 k_16 hk fuel
          induction fuel with
          | zero =>
            intro v6_16 v8_16 o_triangle_16 o_takenBy_16 ls hl H locs hP hS hr
            rw [f_X7_areLike_L16_z] at hr
            cases hr
          | succ fuel ih =>
            intro v6_16 v8_16 o_triangle_16 o_takenBy_16 ls hl H locs hP hS hr
            rw [f_X7_areLike_L16_s] at hr
            refine lv_iload hx hb dX7_areLike_16 (lv_at hl 8 rfl) ?_
            refine lv_iload hx hb dX7_areLike_18 (lv_at hl 5 rfl) ?_
            refine lv_icmp_ge (tgt := 67) hx hb dX7_areLike_20 (by decide) (fun c_2 => ?_) (fun c_2 => ?_)
            · have hr := ite_p hr c_2
              exact hk v6_16 o_triangle_16 o_takenBy_16 ls (lv_sub hl [0, 1, 2, 3, 4, 5, 6, 7] rfl) H locs hP hS hr
            · have hr := ite_n hr c_2
              refine lv_iload hx hb dX7_areLike_23 (lv_at hl 6 rfl) ?_
              refine lv_aload_n hx hb dX7_areLike_25 rfl (lv_at hl 0 rfl) ?_
              refine lv_iload_n hx hb dX7_areLike_26 rfl (lv_at hl 1 rfl) ?_
              refine lv_iload hx hb dX7_areLike_27 (lv_at hl 7 rfl) ?_
              refine lv_iadd hx hb dX7_areLike_29 ?_
              refine lv_iload_n hx hb dX7_areLike_30 rfl (lv_at hl 2 rfl) ?_
              refine lv_iload hx hb dX7_areLike_31 (lv_at hl 8 rfl) ?_
              refine lv_iadd hx hb dX7_areLike_33 ?_
              obtain ⟨u_3, hu_3, hr⟩ := bd_e hr
              refine mu_V ⟨hx, hb, hml, hown, hts⟩ (k_X7_remainder l dC dI cI cJ a_o a_o_g a_o_kept a_o_was a_o_triangle a_o_text a_o_sort a_o_size a_o_items (v1_16 + v7_16) (v2_16 + v8_16) o_isKept o_takenBy_16 o_fed o_place o_letter o_first o_second o_g o_triangle_16 H.size u_3 hu_3) (cwV 2 hts gX7_areLike_X7_remainder rfl rfl rfl (by decide +kernel) ⟨Nat.le_of_ble_eq_true rfl, Nat.le_of_ble_eq_true rfl⟩) hE 0 rfl rfl rfl rfl hl.1 rfl (Nat.le_of_ble_eq_true rfl) dX7_areLike_34 ⟨Nat.zero_le _, Nat.zero_le _⟩ hP (hD.fst rfl) hS hA [0, 1, 2] [] [0, 1, 2] rfl rfl (by decide) (by decide) rfl (by decide) (W1 := [(a_o, .inr (6, [.ref a_o_g, .ref a_o_kept, .ref a_o_was, .int o_isKept, .ref a_o_triangle, .int u_3.2.2, .ref a_o_text, .int o_fed, .int o_place, .int o_letter, .int o_first, .int o_second, .ref a_o_sort, .ref a_o_size, .ref a_o_items])), (a_o_g, .inl (cI, 64, .inl o_g)), (a_o_triangle, .inl (cI, 16384, .inl u_3.2.1))]) rfl (fun H locs hP hS => W.eq (g2 := F0 m 37 ls [.int u_3.1, .int v6_16]) rfl ?_)
              refine lv_aload_n hx hb dX7_areLike_37 rfl (lv_at hl 0 rfl) ?_
              refine lv_iload_n hx hb dX7_areLike_38 rfl (lv_at hl 3 rfl) ?_
              refine lv_iload hx hb dX7_areLike_39 (lv_at hl 7 rfl) ?_
              refine lv_iadd hx hb dX7_areLike_41 ?_
              refine lv_iload hx hb dX7_areLike_42 (lv_at hl 4 rfl) ?_
              refine lv_iload hx hb dX7_areLike_44 (lv_at hl 8 rfl) ?_
              refine lv_iadd hx hb dX7_areLike_46 ?_
              obtain ⟨u_4, hu_4, hr⟩ := bd_e hr
              refine mu_V ⟨hx, hb, hml, hown, hts⟩ (k_X7_remainder l dC dI cI cJ a_o a_o_g a_o_kept a_o_was a_o_triangle a_o_text a_o_sort a_o_size a_o_items (v3_16 + v7_16) (v4_16 + v8_16) o_isKept u_3.2.2 o_fed o_place o_letter o_first o_second o_g u_3.2.1 H.size u_4 hu_4) (cwV 2 hts gX7_areLike_X7_remainder rfl rfl rfl (by decide +kernel) ⟨Nat.le_of_ble_eq_true rfl, Nat.le_of_ble_eq_true rfl⟩) hE 0 rfl rfl rfl rfl hl.1 rfl (Nat.le_of_ble_eq_true rfl) dX7_areLike_47 ⟨Nat.zero_le _, Nat.zero_le _⟩ hP (hD.fst rfl) hS hA [0, 1, 2] [] [0, 1, 2] rfl rfl (by decide) (by decide) rfl (by decide) (W1 := [(a_o, .inr (6, [.ref a_o_g, .ref a_o_kept, .ref a_o_was, .int o_isKept, .ref a_o_triangle, .int u_4.2.2, .ref a_o_text, .int o_fed, .int o_place, .int o_letter, .int o_first, .int o_second, .ref a_o_sort, .ref a_o_size, .ref a_o_items])), (a_o_g, .inl (cI, 64, .inl o_g)), (a_o_triangle, .inl (cI, 16384, .inl u_4.2.1))]) rfl (fun H locs hP hS => W.eq (g2 := F0 m 50 ls [.int u_4.1, .int u_3.1, .int v6_16]) rfl ?_)
              have hJ_5 : ∀ (y_6 : Int32) (ey_6 : y_6 = (if (u_3.1 = u_4.1) then (1 : Int32) else (0 : Int32))) (ls : Array Slot), lv_has ls 9 [(0, .ref a_o), (1, .int v1_16), (2, .int v2_16), (3, .int v3_16), (4, .int v4_16), (5, .int v5_16), (7, .int v7_16), (8, .int v8_16)] → W p l e rmX7_areLike s m args below meth c H locs 0 0 Q (F0 m 58 ls [.int y_6, .int v6_16]) := by
                intro y_6 ey_6 ls hl
                subst ey_6
                refine lv_iand hx hb dX7_areLike_58 ?_
                refine lv_istore (lv' := [(6, .int (v6_16 &&& (if (u_3.1 = u_4.1) then (1 : Int32) else (0 : Int32)))), (0, .ref a_o), (1, .int v1_16), (2, .int v2_16), (3, .int v3_16), (4, .int v4_16), (5, .int v5_16), (7, .int v7_16), (8, .int v8_16)]) hx hb dX7_areLike_59 hl (by decide) rfl (fun ls hl => ?_)
                refine lv_iinc (v := (v8_16 + (1 : Int32))) (lv' := [(8, .int (v8_16 + (1 : Int32))), (6, .int (v6_16 &&& (if (u_3.1 = u_4.1) then (1 : Int32) else (0 : Int32)))), (0, .ref a_o), (1, .int v1_16), (2, .int v2_16), (3, .int v3_16), (4, .int v4_16), (5, .int v5_16), (7, .int v7_16)]) hx hb dX7_areLike_61 hl (k := 8) rfl (congrArg (fun z => v8_16 + z) (by decide)) (by decide) rfl (fun ls hl => ?_)
                refine lv_goto (tgt := 16) hx hb dX7_areLike_64 (by decide) ?_
                exact ih (v6_16 &&& (if (u_3.1 = u_4.1) then (1 : Int32) else (0 : Int32))) (v8_16 + (1 : Int32)) u_4.2.1 u_4.2.2 ls (lv_sub hl [2, 3, 4, 5, 6, 7, 1, 8, 0] rfl) H locs hP hS hr
              refine lv_icmp_ne (tgt := 57) hx hb dX7_areLike_50 (by decide) (fun c_7 => ?_) (fun c_7 => ?_)
              · refine lv_iconst (v := (0 : Int32)) hx hb dX7_areLike_57 (by decide) ?_
                exact hJ_5 _ (if_neg c_7).symm ls (lv_sub hl [0, 1, 2, 3, 4, 5, 7, 8] rfl)
              · refine lv_iconst (v := (1 : Int32)) hx hb dX7_areLike_53 (by decide) ?_
                refine lv_goto (tgt := 58) hx hb dX7_areLike_54 (by decide) ?_
                exact hJ_5 _ (if_pos c_7).symm ls (lv_sub hl [0, 1, 2, 3, 4, 5, 7, 8] rfl)
        refine hL16 v1_6 v2_6 v3_6 v4_6 v5_6 v7_6 _ (fun x6_16 xc_o_triangle_16 xc_o_takenBy_16 ls hl H locs hP hS hr => ?_) 5000 v6_6 (0 : Int32) o_triangle_6 o_takenBy_6 ls (lv_sub hl [1, 2, 3, 4, 5, 6, 7, 8, 0] rfl) H locs hP hS hr
        refine lv_iinc (v := (v7_6 + (1 : Int32))) (lv' := [(7, .int (v7_6 + (1 : Int32))), (0, .ref a_o), (1, .int v1_6), (2, .int v2_6), (3, .int v3_6), (4, .int v4_6), (5, .int v5_6), (6, .int x6_16)]) hx hb dX7_areLike_67 hl (k := 7) rfl (congrArg (fun z => v7_6 + z) (by decide)) (by decide) rfl (fun ls hl => ?_)
        refine lv_goto (tgt := 6) hx hb dX7_areLike_70 (by decide) ?_
        exact ih x6_16 (v7_6 + (1 : Int32)) xc_o_triangle_16 xc_o_takenBy_16 ls (lv_sub hl [1, 2, 3, 4, 5, 6, 7, 0] rfl) H locs hP hS hr
  refine hL6 p0 p1 p2 p3 p4 _ (fun x6_6 xc_o_triangle_6 xc_o_takenBy_6 ls hl H locs hP hS hr => ?_) 5000 (1 : Int32) (0 : Int32) o_triangle o_takenBy ls (lv_sub hl [2, 3, 4, 5, 6, 7, 1, 0] rfl) H locs hP hS hr
  refine lv_iload hx hb dX7_areLike_73 (lv_at hl 0 rfl) ?_
  obtain ⟨hz_8, hr⟩ := bz_e hr
  obtain rfl := Option.some.inj hr
  exact hret H locs _ hP hS (fun Qc free hq hf => W.zret hx hb hrt (nz_ hz_8) hq hf dX7_areLike_75 hlocks)
/-! X7_like -/
def rmX7_like : Room := { frames := 4, cells := 0, slots := 0, locals := 93 }
set_option maxHeartbeats 4000000 in
set_option maxRecDepth 100000 in
theorem k_X7_like (l : Launch) (dC : Nat → ClassId) (dI : Nat → Nat → Nat) (cI cJ : ClassId) (a_o : Nat) (a_o_g : Nat) (a_o_kept : Nat) (a_o_was : Nat) (a_o_triangle : Nat) (a_o_text : Nat) (a_o_sort : Nat) (a_o_size : Nat) (a_o_items : Nat) (p0 : Int32) (p1 : Int32) (p2 : Int32) (p3 : Int32) (p4 : Int32) (o_isKept : Int32) (o_takenBy : Int32) (o_fed : Int32) (o_place : Int32) (o_letter : Int32) (o_first : Int32) (o_second : Int32) (o_g : Nat → Int32) (o_triangle : Nat → Int32) (sz : Nat) (r : Int32 × (Nat → Int32) × Int32) (hr : f_X7_like p0 p1 p2 p3 p4 o_g o_triangle o_takenBy = some r) : Met l yX7_like wsX7_like rmX7_like (va_Pc [.ref a_o, .int p0, .int p1, .int p2, .int p3, .int p4] (pM (dC, dI) cI cJ [(a_o, .inr (6, [.ref a_o_g, .ref a_o_kept, .ref a_o_was, .int o_isKept, .ref a_o_triangle, .int o_takenBy, .ref a_o_text, .int o_fed, .int o_place, .int o_letter, .int o_first, .int o_second, .ref a_o_sort, .ref a_o_size, .ref a_o_items])), (a_o_g, .inl (cI, 64, .inl o_g)), (a_o_triangle, .inl (cI, 16384, .inl o_triangle))] sz)) (qM (some (.int r.1)) (dC, dI) [(a_o, .inr (6, [.ref a_o_g, .ref a_o_kept, .ref a_o_was, .int o_isKept, .ref a_o_triangle, .int r.2.2, .ref a_o_text, .int o_fed, .int o_place, .int o_letter, .int o_first, .int o_second, .ref a_o_sort, .ref a_o_size, .ref a_o_items])), (a_o_g, .inl (cI, 64, .inl o_g)), (a_o_triangle, .inl (cI, 16384, .inl r.2.1))] (va_A [(a_o, .inr (6, [.ref a_o_g, .ref a_o_kept, .ref a_o_was, .int o_isKept, .ref a_o_triangle, .int o_takenBy, .ref a_o_text, .int o_fed, .int o_place, .int o_letter, .int o_first, .int o_second, .ref a_o_sort, .ref a_o_size, .ref a_o_items])), (a_o_g, .inl (cI, 64, .inl o_g)), (a_o_triangle, .inl (cI, 16384, .inl o_triangle))] sz)) 0 0 (va_A [(a_o, .inr (6, [.ref a_o_g, .ref a_o_kept, .ref a_o_was, .int o_isKept, .ref a_o_triangle, .int o_takenBy, .ref a_o_text, .int o_fed, .int o_place, .int o_letter, .int o_first, .int o_second, .ref a_o_sort, .ref a_o_size, .ref a_o_items])), (a_o_g, .inl (cI, 64, .inl o_g)), (a_o_triangle, .inl (cI, 16384, .inl o_triangle))] sz) := by
  refine mu_of (cc := cX7_like) (maxL := 6) (by decide) rfl (Nat.le_of_ble_eq_true rfl) ?_
  intro p e s m args below meth c Q ls A hx hb hml hown hts hE hP hD hA hrt hlocks hret hl
  have hK := hE.1
  have hS : va_S A s.heap s.heap [] := va_S.rf
  have hl : lv_has ls 6 [(0, .ref a_o), (1, .int p0), (2, .int p1), (3, .int p2), (4, .int p3), (5, .int p4)] := hl
  unfold f_X7_like at hr
  obtain ⟨H, hHe⟩ : ∃ H, H = s.heap := ⟨_, rfl⟩
  obtain ⟨locs, hLe⟩ : ∃ locs : List Loc, locs = [] := ⟨_, rfl⟩
  suffices hgo : va_P (dC, dI) vwCl [(a_o, .inr (6, [.ref a_o_g, .ref a_o_kept, .ref a_o_was, .int o_isKept, .ref a_o_triangle, .int o_takenBy, .ref a_o_text, .int o_fed, .int o_place, .int o_letter, .int o_first, .int o_second, .ref a_o_sort, .ref a_o_size, .ref a_o_items])), (a_o_g, .inl (cI, 64, .inl o_g)), (a_o_triangle, .inl (cI, 16384, .inl o_triangle))] H → va_S A s.heap H locs → W p l e rmX7_like s m args below meth c H locs 0 0 Q (F0 m 0 ls []) by
    subst hHe; subst hLe; exact hgo hP hS
  clear hP hS hHe hLe
  intro hP hS
  have iX7 : ∀ w ∈ wsX70, w ∈ wsX7_like := memr_ (big := wsX7_like) wsX70 [32, 33, 34, 35, 36, 37, 38, 39, 40, 41, 42, 43, 44, 45, 46] (by decide +kernel)
  refine lv_iload_n hx hb dX7_like_0 rfl (lv_at hl 1 rfl) ?_
  refine ro_S ⟨hx, hb, hml, hown, hts⟩ (k_X7_isRow l dC dI cI cJ p0) (va_cwS 1 hts gX7_like_X7_isRow rfl rfl rfl (by decide +kernel) ⟨Nat.le_of_ble_eq_true rfl, Nat.le_of_ble_eq_true rfl⟩) hE (hP.sub [] rfl) rfl hl.1 rfl (Nat.le_of_ble_eq_true rfl) dX7_like_1 ⟨Nat.zero_le _, Nat.zero_le _⟩ ?_
  have tT_2 : (((f_X7_isRow p0) = 0) ∨ (((f_X7_isRow p1) = 0) ∨ (((f_X7_isRow p2) = 0) ∨ ((f_X7_isRow p3) = 0)))) → W p l e rmX7_like s m args below meth c H locs 0 0 Q (F0 m 29 ls []) := by
    intro hc_1
    have hr := ite_p hr hc_1
    refine lv_iconst (v := (-1 : Int32)) hx hb dX7_like_29 (by decide) ?_
    obtain rfl := Option.some.inj hr
    exact hret H locs _ hP hS (fun Qc free hq hf => W.iret hx hb hrt hq hf dX7_like_30 hlocks)
  have tF_3 : ¬ (((f_X7_isRow p0) = 0) ∨ (((f_X7_isRow p1) = 0) ∨ (((f_X7_isRow p2) = 0) ∨ ((f_X7_isRow p3) = 0)))) → W p l e rmX7_like s m args below meth c H locs 0 0 Q (F0 m 31 ls []) := by
    intro hc_1
    have hr := ite_n hr hc_1
    refine lv_iload hx hb dX7_like_31 (lv_at hl 5 rfl) ?_
    refine lv_i2l (v := (Int32.toInt64 p4)) hx hb dX7_like_33 rfl ?_
    refine lv_lconst (v := (1 : Int64)) hx hb dX7_like_34 (by decide) ?_
    refine lv_ldc2 (v := (32 : Int64)) hx hb hown (hts (.constantLong RX7 174 (32)) (List.mem_of_getElem? (i := 1) rfl)) dX7_like_35 ?_
    refine ro_S ⟨hx, hb, hml, hown, hts⟩ (k_X7_isIn l dC dI cI cJ (Int32.toInt64 p4) (1 : Int64) (32 : Int64)) (va_cwS 3 hts gX7_like_X7_isIn rfl rfl rfl (by decide +kernel) ⟨Nat.le_of_ble_eq_true rfl, Nat.le_of_ble_eq_true rfl⟩) hE (hP.sub [] rfl) rfl hl.1 rfl (Nat.le_of_ble_eq_true rfl) dX7_like_38 ⟨Nat.zero_le _, Nat.zero_le _⟩ ?_
    refine lv_if_ne (tgt := 47) hx hb dX7_like_41 (by decide) (fun c_4 => ?_) (fun c_4 => ?_)
    · have hr := ite_n hr c_4
      refine lv_aload_n hx hb dX7_like_47 rfl (lv_at hl 0 rfl) ?_
      refine lv_iload_n hx hb dX7_like_48 rfl (lv_at hl 1 rfl) ?_
      refine lv_iload_n hx hb dX7_like_49 rfl (lv_at hl 2 rfl) ?_
      refine lv_iload_n hx hb dX7_like_50 rfl (lv_at hl 3 rfl) ?_
      refine lv_iload hx hb dX7_like_51 (lv_at hl 4 rfl) ?_
      refine lv_iload hx hb dX7_like_53 (lv_at hl 5 rfl) ?_
      obtain ⟨u_5, hu_5, hr⟩ := bd_e hr
      refine mu_V ⟨hx, hb, hml, hown, hts⟩ (k_X7_areLike l dC dI cI cJ a_o a_o_g a_o_kept a_o_was a_o_triangle a_o_text a_o_sort a_o_size a_o_items p0 p1 p2 p3 p4 o_isKept o_takenBy o_fed o_place o_letter o_first o_second o_g o_triangle H.size u_5 hu_5) (cwV 5 hts gX7_like_X7_areLike rfl rfl rfl (by decide +kernel) ⟨Nat.le_of_ble_eq_true rfl, Nat.le_of_ble_eq_true rfl⟩) hE 0 rfl rfl rfl rfl hl.1 rfl (Nat.le_of_ble_eq_true rfl) dX7_like_55 ⟨Nat.zero_le _, Nat.zero_le _⟩ hP (hD.fst rfl) hS hA [0, 1, 2] [] [0, 1, 2] rfl rfl (by decide) (by decide) rfl (by decide) (W1 := [(a_o, .inr (6, [.ref a_o_g, .ref a_o_kept, .ref a_o_was, .int o_isKept, .ref a_o_triangle, .int u_5.2.2, .ref a_o_text, .int o_fed, .int o_place, .int o_letter, .int o_first, .int o_second, .ref a_o_sort, .ref a_o_size, .ref a_o_items])), (a_o_g, .inl (cI, 64, .inl o_g)), (a_o_triangle, .inl (cI, 16384, .inl u_5.2.1))]) rfl (fun H locs hP hS => W.eq (g2 := F0 m 58 ls [.int u_5.1]) rfl ?_)
      have hJ_6 : ∀ (y_7 : Int32) (ey_7 : y_7 = (if (¬ (u_5.1 = 0)) then (1 : Int32) else (0 : Int32))) (ls : Array Slot), lv_has ls 6 [] → W p l e rmX7_like s m args below meth c H locs 0 0 Q (F0 m 66 ls [.int y_7]) := by
        intro y_7 ey_7 ls hl
        subst ey_7
        obtain rfl := Option.some.inj hr
        exact hret H locs _ hP hS (fun Qc free hq hf => W.iret hx hb hrt hq hf dX7_like_66 hlocks)
      refine lv_if_eq (tgt := 65) hx hb dX7_like_58 (by decide) (fun c_8 => ?_) (fun c_8 => ?_)
      · refine lv_iconst (v := (0 : Int32)) hx hb dX7_like_65 (by decide) ?_
        exact hJ_6 _ (if_neg (fun h => h c_8)).symm ls (lv_sub hl [] rfl)
      · refine lv_iconst (v := (1 : Int32)) hx hb dX7_like_61 (by decide) ?_
        refine lv_goto (tgt := 66) hx hb dX7_like_62 (by decide) ?_
        exact hJ_6 _ (if_pos c_8).symm ls (lv_sub hl [] rfl)
    · have hr := ite_p hr c_4
      refine lv_bipush (v := (-2 : Int32)) hx hb dX7_like_44 (by decide) ?_
      obtain rfl := Option.some.inj hr
      exact hret H locs _ hP hS (fun Qc free hq hf => W.iret hx hb hrt hq hf dX7_like_46 hlocks)
  refine lv_if_eq (tgt := 29) hx hb dX7_like_4 (by decide) (fun c_9 => ?_) (fun c_9 => ?_)
  · exact tT_2 (Or.inl c_9)
  · refine lv_iload_n hx hb dX7_like_7 rfl (lv_at hl 2 rfl) ?_
    refine ro_S ⟨hx, hb, hml, hown, hts⟩ (k_X7_isRow l dC dI cI cJ p1) (va_cwS 1 hts gX7_like_X7_isRow rfl rfl rfl (by decide +kernel) ⟨Nat.le_of_ble_eq_true rfl, Nat.le_of_ble_eq_true rfl⟩) hE (hP.sub [] rfl) rfl hl.1 rfl (Nat.le_of_ble_eq_true rfl) dX7_like_8 ⟨Nat.zero_le _, Nat.zero_le _⟩ ?_
    refine lv_if_eq (tgt := 29) hx hb dX7_like_11 (by decide) (fun c_10 => ?_) (fun c_10 => ?_)
    · exact tT_2 (Or.inr (Or.inl c_10))
    · refine lv_iload_n hx hb dX7_like_14 rfl (lv_at hl 3 rfl) ?_
      refine ro_S ⟨hx, hb, hml, hown, hts⟩ (k_X7_isRow l dC dI cI cJ p2) (va_cwS 1 hts gX7_like_X7_isRow rfl rfl rfl (by decide +kernel) ⟨Nat.le_of_ble_eq_true rfl, Nat.le_of_ble_eq_true rfl⟩) hE (hP.sub [] rfl) rfl hl.1 rfl (Nat.le_of_ble_eq_true rfl) dX7_like_15 ⟨Nat.zero_le _, Nat.zero_le _⟩ ?_
      refine lv_if_eq (tgt := 29) hx hb dX7_like_18 (by decide) (fun c_11 => ?_) (fun c_11 => ?_)
      · exact tT_2 (Or.inr (Or.inr (Or.inl c_11)))
      · refine lv_iload hx hb dX7_like_21 (lv_at hl 4 rfl) ?_
        refine ro_S ⟨hx, hb, hml, hown, hts⟩ (k_X7_isRow l dC dI cI cJ p3) (va_cwS 1 hts gX7_like_X7_isRow rfl rfl rfl (by decide +kernel) ⟨Nat.le_of_ble_eq_true rfl, Nat.le_of_ble_eq_true rfl⟩) hE (hP.sub [] rfl) rfl hl.1 rfl (Nat.le_of_ble_eq_true rfl) dX7_like_23 ⟨Nat.zero_le _, Nat.zero_le _⟩ ?_
        refine lv_if_ne (tgt := 31) hx hb dX7_like_26 (by decide) (fun c_12 => ?_) (fun c_12 => ?_)
        · exact tF_3 (fun h => h.elim c_9 (fun h => h.elim c_10 (fun h => h.elim c_11 c_12)))
        · exact tT_2 (Or.inr (Or.inr (Or.inr c_12)))
/-! X7_scaled -/
def rmX7_scaled : Room := { frames := 4, cells := 0, slots := 0, locals := 93 }
set_option maxHeartbeats 4000000 in
set_option maxRecDepth 100000 in
theorem k_X7_scaled (l : Launch) (dC : Nat → ClassId) (dI : Nat → Nat → Nat) (cI cJ : ClassId) (a_o : Nat) (a_o_g : Nat) (a_o_kept : Nat) (a_o_was : Nat) (a_o_triangle : Nat) (a_o_text : Nat) (a_o_sort : Nat) (a_o_size : Nat) (a_o_items : Nat) (p0 : Int32) (p1 : Int32) (o_isKept : Int32) (o_takenBy : Int32) (o_fed : Int32) (o_place : Int32) (o_letter : Int32) (o_first : Int32) (o_second : Int32) (o_g : Nat → Int32) (o_triangle : Nat → Int32) (sz : Nat) (r : Int32 × (Nat → Int32) × Int32) (hr : f_X7_scaled p0 p1 o_g o_triangle o_takenBy = some r) : Met l yX7_scaled wsX7_scaled rmX7_scaled (va_Pc [.ref a_o, .int p0, .int p1] (pM (dC, dI) cI cJ [(a_o, .inr (6, [.ref a_o_g, .ref a_o_kept, .ref a_o_was, .int o_isKept, .ref a_o_triangle, .int o_takenBy, .ref a_o_text, .int o_fed, .int o_place, .int o_letter, .int o_first, .int o_second, .ref a_o_sort, .ref a_o_size, .ref a_o_items])), (a_o_g, .inl (cI, 64, .inl o_g)), (a_o_triangle, .inl (cI, 16384, .inl o_triangle))] sz)) (qM (some (.int r.1)) (dC, dI) [(a_o, .inr (6, [.ref a_o_g, .ref a_o_kept, .ref a_o_was, .int o_isKept, .ref a_o_triangle, .int r.2.2, .ref a_o_text, .int o_fed, .int o_place, .int o_letter, .int o_first, .int o_second, .ref a_o_sort, .ref a_o_size, .ref a_o_items])), (a_o_g, .inl (cI, 64, .inl o_g)), (a_o_triangle, .inl (cI, 16384, .inl r.2.1))] (va_A [(a_o, .inr (6, [.ref a_o_g, .ref a_o_kept, .ref a_o_was, .int o_isKept, .ref a_o_triangle, .int o_takenBy, .ref a_o_text, .int o_fed, .int o_place, .int o_letter, .int o_first, .int o_second, .ref a_o_sort, .ref a_o_size, .ref a_o_items])), (a_o_g, .inl (cI, 64, .inl o_g)), (a_o_triangle, .inl (cI, 16384, .inl o_triangle))] sz)) 0 0 (va_A [(a_o, .inr (6, [.ref a_o_g, .ref a_o_kept, .ref a_o_was, .int o_isKept, .ref a_o_triangle, .int o_takenBy, .ref a_o_text, .int o_fed, .int o_place, .int o_letter, .int o_first, .int o_second, .ref a_o_sort, .ref a_o_size, .ref a_o_items])), (a_o_g, .inl (cI, 64, .inl o_g)), (a_o_triangle, .inl (cI, 16384, .inl o_triangle))] sz) := by
  refine mu_of (cc := cX7_scaled) (maxL := 3) (by decide) rfl (Nat.le_of_ble_eq_true rfl) ?_
  intro p e s m args below meth c Q ls A hx hb hml hown hts hE hP hD hA hrt hlocks hret hl
  have hK := hE.1
  have hS : va_S A s.heap s.heap [] := va_S.rf
  have hl : lv_has ls 3 [(0, .ref a_o), (1, .int p0), (2, .int p1)] := hl
  unfold f_X7_scaled at hr
  obtain ⟨H, hHe⟩ : ∃ H, H = s.heap := ⟨_, rfl⟩
  obtain ⟨locs, hLe⟩ : ∃ locs : List Loc, locs = [] := ⟨_, rfl⟩
  suffices hgo : va_P (dC, dI) vwCl [(a_o, .inr (6, [.ref a_o_g, .ref a_o_kept, .ref a_o_was, .int o_isKept, .ref a_o_triangle, .int o_takenBy, .ref a_o_text, .int o_fed, .int o_place, .int o_letter, .int o_first, .int o_second, .ref a_o_sort, .ref a_o_size, .ref a_o_items])), (a_o_g, .inl (cI, 64, .inl o_g)), (a_o_triangle, .inl (cI, 16384, .inl o_triangle))] H → va_S A s.heap H locs → W p l e rmX7_scaled s m args below meth c H locs 0 0 Q (F0 m 0 ls []) by
    subst hHe; subst hLe; exact hgo hP hS
  clear hP hS hHe hLe
  intro hP hS
  have iX7 : ∀ w ∈ wsX70, w ∈ wsX7_scaled := memr_ (big := wsX7_scaled) wsX70 [30, 31, 32, 33, 34, 35, 36, 37, 38, 39, 40, 41, 42, 43, 44] (by decide +kernel)
  refine lv_iload_n hx hb dX7_scaled_0 rfl (lv_at hl 1 rfl) ?_
  refine lv_i2l (v := (Int32.toInt64 p0)) hx hb dX7_scaled_1 rfl ?_
  refine lv_lconst (v := (1 : Int64)) hx hb dX7_scaled_2 (by decide) ?_
  refine lv_ldc2 (v := (32 : Int64)) hx hb hown (hts (.constantLong RX7 174 (32)) (List.mem_of_getElem? (i := 1) rfl)) dX7_scaled_3 ?_
  refine ro_S ⟨hx, hb, hml, hown, hts⟩ (k_X7_isIn l dC dI cI cJ (Int32.toInt64 p0) (1 : Int64) (32 : Int64)) (va_cwS 3 hts gX7_scaled_X7_isIn rfl rfl rfl (by decide +kernel) ⟨Nat.le_of_ble_eq_true rfl, Nat.le_of_ble_eq_true rfl⟩) hE (hP.sub [] rfl) rfl hl.1 rfl (Nat.le_of_ble_eq_true rfl) dX7_scaled_6 ⟨Nat.zero_le _, Nat.zero_le _⟩ ?_
  have tT_2 : (((f_X7_isIn (Int32.toInt64 p0) (1 : Int64) (32 : Int64)) = 0) ∨ ((f_X7_isIn (Int32.toInt64 p1) (1 : Int64) (9 : Int64)) = 0)) → W p l e rmX7_scaled s m args below meth c H locs 0 0 Q (F0 m 24 ls []) := by
    intro hc_1
    have hr := ite_p hr hc_1
    refine lv_bipush (v := (-2 : Int32)) hx hb dX7_scaled_24 (by decide) ?_
    obtain rfl := Option.some.inj hr
    exact hret H locs _ hP hS (fun Qc free hq hf => W.iret hx hb hrt hq hf dX7_scaled_26 hlocks)
  have tF_3 : ¬ (((f_X7_isIn (Int32.toInt64 p0) (1 : Int64) (32 : Int64)) = 0) ∨ ((f_X7_isIn (Int32.toInt64 p1) (1 : Int64) (9 : Int64)) = 0)) → W p l e rmX7_scaled s m args below meth c H locs 0 0 Q (F0 m 27 ls []) := by
    intro hc_1
    have hr := ite_n hr hc_1
    refine lv_aload_n hx hb dX7_scaled_27 rfl (lv_at hl 0 rfl) ?_
    refine lv_iconst (v := (0 : Int32)) hx hb dX7_scaled_28 (by decide) ?_
    refine lv_iconst (v := (0 : Int32)) hx hb dX7_scaled_29 (by decide) ?_
    refine lv_iload_n hx hb dX7_scaled_30 rfl (lv_at hl 2 rfl) ?_
    refine lv_iload_n hx hb dX7_scaled_31 rfl (lv_at hl 1 rfl) ?_
    refine lv_imul hx hb dX7_scaled_32 ?_
    refine lv_iconst (v := (0 : Int32)) hx hb dX7_scaled_33 (by decide) ?_
    refine lv_iload_n hx hb dX7_scaled_34 rfl (lv_at hl 1 rfl) ?_
    obtain ⟨u_4, hu_4, hr⟩ := bd_e hr
    refine mu_V ⟨hx, hb, hml, hown, hts⟩ (k_X7_areLike l dC dI cI cJ a_o a_o_g a_o_kept a_o_was a_o_triangle a_o_text a_o_sort a_o_size a_o_items (0 : Int32) (0 : Int32) (p1 * p0) (0 : Int32) p0 o_isKept o_takenBy o_fed o_place o_letter o_first o_second o_g o_triangle H.size u_4 hu_4) (cwV 5 hts gX7_scaled_X7_areLike rfl rfl rfl (by decide +kernel) ⟨Nat.le_of_ble_eq_true rfl, Nat.le_of_ble_eq_true rfl⟩) hE 0 rfl rfl rfl rfl hl.1 rfl (Nat.le_of_ble_eq_true rfl) dX7_scaled_35 ⟨Nat.zero_le _, Nat.zero_le _⟩ hP (hD.fst rfl) hS hA [0, 1, 2] [] [0, 1, 2] rfl rfl (by decide) (by decide) rfl (by decide) (W1 := [(a_o, .inr (6, [.ref a_o_g, .ref a_o_kept, .ref a_o_was, .int o_isKept, .ref a_o_triangle, .int u_4.2.2, .ref a_o_text, .int o_fed, .int o_place, .int o_letter, .int o_first, .int o_second, .ref a_o_sort, .ref a_o_size, .ref a_o_items])), (a_o_g, .inl (cI, 64, .inl o_g)), (a_o_triangle, .inl (cI, 16384, .inl u_4.2.1))]) rfl (fun H locs hP hS => W.eq (g2 := F0 m 38 ls [.int u_4.1]) rfl ?_)
    have hJ_5 : ∀ (y_6 : Int32) (ey_6 : y_6 = (if (¬ (u_4.1 = 0)) then (1 : Int32) else (0 : Int32))) (ls : Array Slot), lv_has ls 3 [] → W p l e rmX7_scaled s m args below meth c H locs 0 0 Q (F0 m 46 ls [.int y_6]) := by
      intro y_6 ey_6 ls hl
      subst ey_6
      obtain rfl := Option.some.inj hr
      exact hret H locs _ hP hS (fun Qc free hq hf => W.iret hx hb hrt hq hf dX7_scaled_46 hlocks)
    refine lv_if_eq (tgt := 45) hx hb dX7_scaled_38 (by decide) (fun c_7 => ?_) (fun c_7 => ?_)
    · refine lv_iconst (v := (0 : Int32)) hx hb dX7_scaled_45 (by decide) ?_
      exact hJ_5 _ (if_neg (fun h => h c_7)).symm ls (lv_sub hl [] rfl)
    · refine lv_iconst (v := (1 : Int32)) hx hb dX7_scaled_41 (by decide) ?_
      refine lv_goto (tgt := 46) hx hb dX7_scaled_42 (by decide) ?_
      exact hJ_5 _ (if_pos c_7).symm ls (lv_sub hl [] rfl)
  refine lv_if_eq (tgt := 24) hx hb dX7_scaled_9 (by decide) (fun c_8 => ?_) (fun c_8 => ?_)
  · exact tT_2 (Or.inl c_8)
  · refine lv_iload_n hx hb dX7_scaled_12 rfl (lv_at hl 2 rfl) ?_
    refine lv_i2l (v := (Int32.toInt64 p1)) hx hb dX7_scaled_13 rfl ?_
    refine lv_lconst (v := (1 : Int64)) hx hb dX7_scaled_14 (by decide) ?_
    refine lv_ldc2 (v := (9 : Int64)) hx hb hown (hts (.constantLong RX7 180 (9)) (List.mem_of_getElem? (i := 2) rfl)) dX7_scaled_15 ?_
    refine ro_S ⟨hx, hb, hml, hown, hts⟩ (k_X7_isIn l dC dI cI cJ (Int32.toInt64 p1) (1 : Int64) (9 : Int64)) (va_cwS 3 hts gX7_scaled_X7_isIn rfl rfl rfl (by decide +kernel) ⟨Nat.le_of_ble_eq_true rfl, Nat.le_of_ble_eq_true rfl⟩) hE (hP.sub [] rfl) rfl hl.1 rfl (Nat.le_of_ble_eq_true rfl) dX7_scaled_18 ⟨Nat.zero_le _, Nat.zero_le _⟩ ?_
    refine lv_if_ne (tgt := 27) hx hb dX7_scaled_21 (by decide) (fun c_9 => ?_) (fun c_9 => ?_)
    · exact tF_3 (fun h => h.elim c_8 c_9)
    · exact tT_2 (Or.inr c_9)
/-! X7_see -/
def rmX7_see : Room := { frames := 3, cells := 0, slots := 0, locals := 66 }
set_option maxHeartbeats 4000000 in
set_option maxRecDepth 100000 in
theorem k_X7_see (l : Launch) (dC : Nat → ClassId) (dI : Nat → Nat → Nat) (cI cJ : ClassId) (a_o : Nat) (a_o_g : Nat) (a_o_kept : Nat) (a_o_was : Nat) (a_o_triangle : Nat) (a_o_text : Nat) (a_o_sort : Nat) (a_o_size : Nat) (a_o_items : Nat) (p0 : Int32) (p1 : Int32) (p2 : Int32) (o_isKept : Int32) (o_takenBy : Int32) (o_fed : Int32) (o_place : Int32) (o_letter : Int32) (o_first : Int32) (o_second : Int32) (o_g : Nat → Int32) (sz : Nat) (r : Int32 × (Nat → Int32)) (hr : f_X7_see p0 p1 p2 o_g = some r) : Met l yX7_see wsX7_see rmX7_see (va_Pc [.ref a_o, .int p0, .int p1, .int p2] (pM (dC, dI) cI cJ [(a_o, .inr (6, [.ref a_o_g, .ref a_o_kept, .ref a_o_was, .int o_isKept, .ref a_o_triangle, .int o_takenBy, .ref a_o_text, .int o_fed, .int o_place, .int o_letter, .int o_first, .int o_second, .ref a_o_sort, .ref a_o_size, .ref a_o_items])), (a_o_g, .inl (cI, 64, .inl o_g))] sz)) (qM (some (.int r.1)) (dC, dI) [(a_o, .inr (6, [.ref a_o_g, .ref a_o_kept, .ref a_o_was, .int o_isKept, .ref a_o_triangle, .int o_takenBy, .ref a_o_text, .int o_fed, .int o_place, .int o_letter, .int o_first, .int o_second, .ref a_o_sort, .ref a_o_size, .ref a_o_items])), (a_o_g, .inl (cI, 64, .inl r.2))] (va_A [(a_o, .inr (6, [.ref a_o_g, .ref a_o_kept, .ref a_o_was, .int o_isKept, .ref a_o_triangle, .int o_takenBy, .ref a_o_text, .int o_fed, .int o_place, .int o_letter, .int o_first, .int o_second, .ref a_o_sort, .ref a_o_size, .ref a_o_items])), (a_o_g, .inl (cI, 64, .inl o_g))] sz)) 0 0 (va_A [(a_o, .inr (6, [.ref a_o_g, .ref a_o_kept, .ref a_o_was, .int o_isKept, .ref a_o_triangle, .int o_takenBy, .ref a_o_text, .int o_fed, .int o_place, .int o_letter, .int o_first, .int o_second, .ref a_o_sort, .ref a_o_size, .ref a_o_items])), (a_o_g, .inl (cI, 64, .inl o_g))] sz) := by
  refine mu_of (cc := cX7_see) (maxL := 5) (by decide) rfl (Nat.le_of_ble_eq_true rfl) ?_
  intro p e s m args below meth c Q ls A hx hb hml hown hts hE hP hD hA hrt hlocks hret hl
  have hK := hE.1
  have hS : va_S A s.heap s.heap [] := va_S.rf
  have hl : lv_has ls 5 [(0, .ref a_o), (1, .int p0), (2, .int p1), (3, .int p2)] := hl
  unfold f_X7_see at hr
  obtain ⟨H, hHe⟩ : ∃ H, H = s.heap := ⟨_, rfl⟩
  obtain ⟨locs, hLe⟩ : ∃ locs : List Loc, locs = [] := ⟨_, rfl⟩
  suffices hgo : va_P (dC, dI) vwCl [(a_o, .inr (6, [.ref a_o_g, .ref a_o_kept, .ref a_o_was, .int o_isKept, .ref a_o_triangle, .int o_takenBy, .ref a_o_text, .int o_fed, .int o_place, .int o_letter, .int o_first, .int o_second, .ref a_o_sort, .ref a_o_size, .ref a_o_items])), (a_o_g, .inl (cI, 64, .inl o_g))] H → va_S A s.heap H locs → W p l e rmX7_see s m args below meth c H locs 0 0 Q (F0 m 0 ls []) by
    subst hHe; subst hLe; exact hgo hP hS
  clear hP hS hHe hLe
  intro hP hS
  have iX7 : ∀ w ∈ wsX70, w ∈ wsX7_see := memr_ (big := wsX7_see) wsX70 [14, 15, 16, 17, 18, 19, 20, 21, 22, 23, 24, 25, 26, 27, 28] (by decide +kernel)
  refine lv_iload_n hx hb dX7_see_0 rfl (lv_at hl 1 rfl) ?_
  refine lv_iconst (v := (-1 : Int32)) hx hb dX7_see_1 (by decide) ?_
  refine lv_icmp_ne (tgt := 15) hx hb dX7_see_2 (by decide) (fun c_1 => ?_) (fun c_1 => ?_)
  · have hr := ite_n hr c_1
    refine lv_iload_n hx hb dX7_see_15 rfl (lv_at hl 1 rfl) ?_
    refine lv_iload_n hx hb dX7_see_16 rfl (lv_at hl 2 rfl) ?_
    refine ro_S ⟨hx, hb, hml, hown, hts⟩ (k_X7_isPlace l dC dI cI cJ p0 p1) (va_cwS 2 hts gX7_see_X7_isPlace rfl rfl rfl (by decide +kernel) ⟨Nat.le_of_ble_eq_true rfl, Nat.le_of_ble_eq_true rfl⟩) hE (hP.sub [] rfl) rfl hl.1 rfl (Nat.le_of_ble_eq_true rfl) dX7_see_17 ⟨Nat.zero_le _, Nat.zero_le _⟩ ?_
    refine lv_if_ne (tgt := 25) hx hb dX7_see_20 (by decide) (fun c_2 => ?_) (fun c_2 => ?_)
    · have hr := ite_n hr c_2
      refine lv_iload_n hx hb dX7_see_25 rfl (lv_at hl 3 rfl) ?_
      refine lv_i2l (v := (Int32.toInt64 p2)) hx hb dX7_see_26 rfl ?_
      refine lv_lconst (v := (0 : Int64)) hx hb dX7_see_27 (by decide) ?_
      refine lv_ldc2 (v := (2400 : Int64)) hx hb hown (hts (.constantLong RX7 97 (2400)) (List.mem_of_getElem? (i := 2) rfl)) dX7_see_28 ?_
      refine ro_S ⟨hx, hb, hml, hown, hts⟩ (k_X7_isIn l dC dI cI cJ (Int32.toInt64 p2) (0 : Int64) (2400 : Int64)) (va_cwS 3 hts gX7_see_X7_isIn rfl rfl rfl (by decide +kernel) ⟨Nat.le_of_ble_eq_true rfl, Nat.le_of_ble_eq_true rfl⟩) hE (hP.sub [] rfl) rfl hl.1 rfl (Nat.le_of_ble_eq_true rfl) dX7_see_31 ⟨Nat.zero_le _, Nat.zero_le _⟩ ?_
      refine lv_if_ne (tgt := 40) hx hb dX7_see_34 (by decide) (fun c_3 => ?_) (fun c_3 => ?_)
      · have hr := ite_n hr c_3
        refine lv_aload_n hx hb dX7_see_40 rfl (lv_at hl 0 rfl) ?_
        refine va_get (D := (dC, dI)) (ci := 6) (v := .ref a_o_g) (C := RX7) (T := TX7) (N := 15) hx hb hts iX7 hown hK hP 0 rfl rfl 0 (by decide) (hts (.fieldLink RX7 11 "PascalRowsModel" "g" "[I") (List.mem_of_getElem? (i := 1) rfl)) (fun _ h9 => h9) rfl dX7_see_41 ?_
        refine lv_bipush (v := (17 : Int32)) hx hb dX7_see_44 (by decide) ?_
        obtain ⟨g_4, eg_4, hg_4, hr⟩ := rd_e hr
        refine va_iald hx hb hK hP 1 0 rfl rfl hg_4 dX7_see_46 ?_
        refine tp_ eg_4 ?_
        refine lv_iconst (v := (4 : Int32)) hx hb dX7_see_47 (by decide) ?_
        refine lv_icmp_ne (tgt := 54) hx hb dX7_see_48 (by decide) (fun c_5 => ?_) (fun c_5 => ?_)
        · have hr := ite_n hr c_5
          refine lv_bipush (v := (18 : Int32)) hx hb dX7_see_54 (by decide) ?_
          refine lv_iconst (v := (3 : Int32)) hx hb dX7_see_56 (by decide) ?_
          refine lv_aload_n hx hb dX7_see_57 rfl (lv_at hl 0 rfl) ?_
          refine va_get (D := (dC, dI)) (ci := 6) (v := .ref a_o_g) (C := RX7) (T := TX7) (N := 15) hx hb hts iX7 hown hK hP 0 rfl rfl 0 (by decide) (hts (.fieldLink RX7 11 "PascalRowsModel" "g" "[I") (List.mem_of_getElem? (i := 1) rfl)) (fun _ h9 => h9) rfl dX7_see_58 ?_
          refine lv_bipush (v := (17 : Int32)) hx hb dX7_see_61 (by decide) ?_
          obtain ⟨g_6, eg_6, hg_6, hr⟩ := rd_e hr
          refine va_iald hx hb hK hP 1 0 rfl rfl hg_6 dX7_see_63 ?_
          refine tp_ eg_6 ?_
          refine lv_imul hx hb dX7_see_64 ?_
          refine lv_iadd hx hb dX7_see_65 ?_
          refine lv_istore (lv' := [(4, .int ((18 : Int32) + ((3 : Int32) * g_6))), (0, .ref a_o), (1, .int p0), (2, .int p1), (3, .int p2)]) hx hb dX7_see_66 hl (by decide) rfl (fun ls hl => ?_)
          refine lv_aload_n hx hb dX7_see_68 rfl (lv_at hl 1 rfl) ?_
          refine va_get (D := (dC, dI)) (ci := 6) (v := .ref a_o_g) (C := RX7) (T := TX7) (N := 15) hx hb hts iX7 hown hK hP 0 rfl rfl 0 (by decide) (hts (.fieldLink RX7 11 "PascalRowsModel" "g" "[I") (List.mem_of_getElem? (i := 1) rfl)) (fun _ h9 => h9) rfl dX7_see_69 ?_
          refine lv_iload hx hb dX7_see_72 (lv_at hl 0 rfl) ?_
          refine lv_iload_n hx hb dX7_see_74 rfl (lv_at hl 2 rfl) ?_
          obtain ⟨w_7, ew_7, hw_7, hr⟩ := wr_e hr
          refine va_iast hx hb hK hP (hD.fst rfl) hS 1 0 rfl rfl hw_7 dX7_see_75 (fun H locs hP _ hS => ?_)
          rw [← ew_7] at hP
          have hP : va_P (dC, dI) vwCl [(a_o, .inr (6, [.ref a_o_g, .ref a_o_kept, .ref a_o_was, .int o_isKept, .ref a_o_triangle, .int o_takenBy, .ref a_o_text, .int o_fed, .int o_place, .int o_letter, .int o_first, .int o_second, .ref a_o_sort, .ref a_o_size, .ref a_o_items])), (a_o_g, .inl (cI, 64, .inl w_7))] H := hP
          refine lv_aload_n hx hb dX7_see_76 rfl (lv_at hl 1 rfl) ?_
          refine va_get (D := (dC, dI)) (ci := 6) (v := .ref a_o_g) (C := RX7) (T := TX7) (N := 15) hx hb hts iX7 hown hK hP 0 rfl rfl 0 (by decide) (hts (.fieldLink RX7 11 "PascalRowsModel" "g" "[I") (List.mem_of_getElem? (i := 1) rfl)) (fun _ h9 => h9) rfl dX7_see_77 ?_
          refine lv_iload hx hb dX7_see_80 (lv_at hl 0 rfl) ?_
          refine lv_iconst (v := (1 : Int32)) hx hb dX7_see_82 (by decide) ?_
          refine lv_iadd hx hb dX7_see_83 ?_
          refine lv_iload_n hx hb dX7_see_84 rfl (lv_at hl 3 rfl) ?_
          obtain ⟨w_8, ew_8, hw_8, hr⟩ := wr_e hr
          refine va_iast hx hb hK hP (hD.fst rfl) hS 1 0 rfl rfl hw_8 dX7_see_85 (fun H locs hP _ hS => ?_)
          rw [← ew_8] at hP
          have hP : va_P (dC, dI) vwCl [(a_o, .inr (6, [.ref a_o_g, .ref a_o_kept, .ref a_o_was, .int o_isKept, .ref a_o_triangle, .int o_takenBy, .ref a_o_text, .int o_fed, .int o_place, .int o_letter, .int o_first, .int o_second, .ref a_o_sort, .ref a_o_size, .ref a_o_items])), (a_o_g, .inl (cI, 64, .inl w_8))] H := hP
          refine lv_aload_n hx hb dX7_see_86 rfl (lv_at hl 1 rfl) ?_
          refine va_get (D := (dC, dI)) (ci := 6) (v := .ref a_o_g) (C := RX7) (T := TX7) (N := 15) hx hb hts iX7 hown hK hP 0 rfl rfl 0 (by decide) (hts (.fieldLink RX7 11 "PascalRowsModel" "g" "[I") (List.mem_of_getElem? (i := 1) rfl)) (fun _ h9 => h9) rfl dX7_see_87 ?_
          refine lv_iload hx hb dX7_see_90 (lv_at hl 0 rfl) ?_
          refine lv_iconst (v := (2 : Int32)) hx hb dX7_see_92 (by decide) ?_
          refine lv_iadd hx hb dX7_see_93 ?_
          refine lv_iload_n hx hb dX7_see_94 rfl (lv_at hl 4 rfl) ?_
          obtain ⟨w_9, ew_9, hw_9, hr⟩ := wr_e hr
          refine va_iast hx hb hK hP (hD.fst rfl) hS 1 0 rfl rfl hw_9 dX7_see_95 (fun H locs hP _ hS => ?_)
          rw [← ew_9] at hP
          have hP : va_P (dC, dI) vwCl [(a_o, .inr (6, [.ref a_o_g, .ref a_o_kept, .ref a_o_was, .int o_isKept, .ref a_o_triangle, .int o_takenBy, .ref a_o_text, .int o_fed, .int o_place, .int o_letter, .int o_first, .int o_second, .ref a_o_sort, .ref a_o_size, .ref a_o_items])), (a_o_g, .inl (cI, 64, .inl w_9))] H := hP
          refine lv_aload_n hx hb dX7_see_96 rfl (lv_at hl 1 rfl) ?_
          refine va_get (D := (dC, dI)) (ci := 6) (v := .ref a_o_g) (C := RX7) (T := TX7) (N := 15) hx hb hts iX7 hown hK hP 0 rfl rfl 0 (by decide) (hts (.fieldLink RX7 11 "PascalRowsModel" "g" "[I") (List.mem_of_getElem? (i := 1) rfl)) (fun _ h9 => h9) rfl dX7_see_97 ?_
          refine lv_bipush (v := (17 : Int32)) hx hb dX7_see_100 (by decide) ?_
          refine lv_dup2_11 hx hb dX7_see_102 rfl rfl ?_
          obtain ⟨g_10, eg_10, hg_10, hr⟩ := rd_e hr
          refine va_iald hx hb hK hP 1 0 rfl rfl hg_10 dX7_see_103 ?_
          refine tp_ eg_10 ?_
          refine lv_iconst (v := (1 : Int32)) hx hb dX7_see_104 (by decide) ?_
          refine lv_iadd hx hb dX7_see_105 ?_
          obtain ⟨w_11, ew_11, hw_11, hr⟩ := wr_e hr
          refine va_iast hx hb hK hP (hD.fst rfl) hS 1 0 rfl rfl hw_11 dX7_see_106 (fun H locs hP _ hS => ?_)
          rw [← ew_11] at hP
          have hP : va_P (dC, dI) vwCl [(a_o, .inr (6, [.ref a_o_g, .ref a_o_kept, .ref a_o_was, .int o_isKept, .ref a_o_triangle, .int o_takenBy, .ref a_o_text, .int o_fed, .int o_place, .int o_letter, .int o_first, .int o_second, .ref a_o_sort, .ref a_o_size, .ref a_o_items])), (a_o_g, .inl (cI, 64, .inl w_11))] H := hP
          refine lv_aload_n hx hb dX7_see_107 rfl (lv_at hl 1 rfl) ?_
          refine va_get (D := (dC, dI)) (ci := 6) (v := .ref a_o_g) (C := RX7) (T := TX7) (N := 15) hx hb hts iX7 hown hK hP 0 rfl rfl 0 (by decide) (hts (.fieldLink RX7 11 "PascalRowsModel" "g" "[I") (List.mem_of_getElem? (i := 1) rfl)) (fun _ h9 => h9) rfl dX7_see_108 ?_
          refine lv_bipush (v := (17 : Int32)) hx hb dX7_see_111 (by decide) ?_
          obtain ⟨g_12, eg_12, hg_12, hr⟩ := rd_e hr
          refine va_iald hx hb hK hP 1 0 rfl rfl hg_12 dX7_see_113 ?_
          refine tp_ eg_12 ?_
          obtain rfl := Option.some.inj hr
          exact hret H locs _ hP hS (fun Qc free hq hf => W.iret hx hb hrt hq hf dX7_see_114 hlocks)
        · have hr := ite_p hr c_5
          refine lv_bipush (v := (-4 : Int32)) hx hb dX7_see_51 (by decide) ?_
          obtain rfl := Option.some.inj hr
          exact hret H locs _ hP hS (fun Qc free hq hf => W.iret hx hb hrt hq hf dX7_see_53 hlocks)
      · have hr := ite_p hr c_3
        refine lv_bipush (v := (-2 : Int32)) hx hb dX7_see_37 (by decide) ?_
        obtain rfl := Option.some.inj hr
        exact hret H locs _ hP hS (fun Qc free hq hf => W.iret hx hb hrt hq hf dX7_see_39 hlocks)
    · have hr := ite_p hr c_2
      refine lv_iconst (v := (-1 : Int32)) hx hb dX7_see_23 (by decide) ?_
      obtain rfl := Option.some.inj hr
      exact hret H locs _ hP hS (fun Qc free hq hf => W.iret hx hb hrt hq hf dX7_see_24 hlocks)
  · have hr := ite_p hr c_1
    refine lv_aload_n hx hb dX7_see_5 rfl (lv_at hl 0 rfl) ?_
    refine va_get (D := (dC, dI)) (ci := 6) (v := .ref a_o_g) (C := RX7) (T := TX7) (N := 15) hx hb hts iX7 hown hK hP 0 rfl rfl 0 (by decide) (hts (.fieldLink RX7 11 "PascalRowsModel" "g" "[I") (List.mem_of_getElem? (i := 1) rfl)) (fun _ h9 => h9) rfl dX7_see_6 ?_
    refine lv_bipush (v := (17 : Int32)) hx hb dX7_see_9 (by decide) ?_
    refine lv_iconst (v := (0 : Int32)) hx hb dX7_see_11 (by decide) ?_
    obtain ⟨w_13, ew_13, hw_13, hr⟩ := wr_e hr
    refine va_iast hx hb hK hP (hD.fst rfl) hS 1 0 rfl rfl hw_13 dX7_see_12 (fun H locs hP _ hS => ?_)
    rw [← ew_13] at hP
    have hP : va_P (dC, dI) vwCl [(a_o, .inr (6, [.ref a_o_g, .ref a_o_kept, .ref a_o_was, .int o_isKept, .ref a_o_triangle, .int o_takenBy, .ref a_o_text, .int o_fed, .int o_place, .int o_letter, .int o_first, .int o_second, .ref a_o_sort, .ref a_o_size, .ref a_o_items])), (a_o_g, .inl (cI, 64, .inl w_13))] H := hP
    refine lv_iconst (v := (0 : Int32)) hx hb dX7_see_13 (by decide) ?_
    obtain rfl := Option.some.inj hr
    exact hret H locs _ hP hS (fun Qc free hq hf => W.iret hx hb hrt hq hf dX7_see_14 hlocks)
/-! X7_fits -/
def rmX7_fits : Room := { frames := 1, cells := 0, slots := 0, locals := 23 }
set_option maxHeartbeats 4000000 in
set_option maxRecDepth 100000 in
theorem k_X7_fits (l : Launch) (dC : Nat → ClassId) (dI : Nat → Nat → Nat) (cI cJ : ClassId) (a_o : Nat) (a_o_g : Nat) (a_o_kept : Nat) (a_o_was : Nat) (a_o_triangle : Nat) (a_o_text : Nat) (a_o_sort : Nat) (a_o_size : Nat) (a_o_items : Nat) (o_isKept : Int32) (o_takenBy : Int32) (o_fed : Int32) (o_place : Int32) (o_letter : Int32) (o_first : Int32) (o_second : Int32) (o_g : Nat → Int32) (o_triangle : Nat → Int32) (sz : Nat) (r : Int32 × (Nat → Int32) × Int32) (hr : f_X7_fits o_g o_triangle o_takenBy = some r) : Met l yX7_fits wsX7_fits rmX7_fits (va_Pc [.ref a_o] (pM (dC, dI) cI cJ [(a_o, .inr (6, [.ref a_o_g, .ref a_o_kept, .ref a_o_was, .int o_isKept, .ref a_o_triangle, .int o_takenBy, .ref a_o_text, .int o_fed, .int o_place, .int o_letter, .int o_first, .int o_second, .ref a_o_sort, .ref a_o_size, .ref a_o_items])), (a_o_g, .inl (cI, 64, .inl o_g)), (a_o_triangle, .inl (cI, 16384, .inl o_triangle))] sz)) (qM (some (.int r.1)) (dC, dI) [(a_o, .inr (6, [.ref a_o_g, .ref a_o_kept, .ref a_o_was, .int o_isKept, .ref a_o_triangle, .int r.2.2, .ref a_o_text, .int o_fed, .int o_place, .int o_letter, .int o_first, .int o_second, .ref a_o_sort, .ref a_o_size, .ref a_o_items])), (a_o_g, .inl (cI, 64, .inl o_g)), (a_o_triangle, .inl (cI, 16384, .inl r.2.1))] (va_A [(a_o, .inr (6, [.ref a_o_g, .ref a_o_kept, .ref a_o_was, .int o_isKept, .ref a_o_triangle, .int o_takenBy, .ref a_o_text, .int o_fed, .int o_place, .int o_letter, .int o_first, .int o_second, .ref a_o_sort, .ref a_o_size, .ref a_o_items])), (a_o_g, .inl (cI, 64, .inl o_g)), (a_o_triangle, .inl (cI, 16384, .inl o_triangle))] sz)) 0 0 (va_A [(a_o, .inr (6, [.ref a_o_g, .ref a_o_kept, .ref a_o_was, .int o_isKept, .ref a_o_triangle, .int o_takenBy, .ref a_o_text, .int o_fed, .int o_place, .int o_letter, .int o_first, .int o_second, .ref a_o_sort, .ref a_o_size, .ref a_o_items])), (a_o_g, .inl (cI, 64, .inl o_g)), (a_o_triangle, .inl (cI, 16384, .inl o_triangle))] sz) := by
  refine mu_of (cc := cX7_fits) (maxL := 6) (by decide) rfl (Nat.le_of_ble_eq_true rfl) ?_
  intro p e s m args below meth c Q ls A hx hb hml hown hts hE hP hD hA hrt hlocks hret hl
  have hK := hE.1
  have hS : va_S A s.heap s.heap [] := va_S.rf
  have hl : lv_has ls 6 [(0, .ref a_o)] := hl
  unfold f_X7_fits at hr
  obtain ⟨H, hHe⟩ : ∃ H, H = s.heap := ⟨_, rfl⟩
  obtain ⟨locs, hLe⟩ : ∃ locs : List Loc, locs = [] := ⟨_, rfl⟩
  suffices hgo : va_P (dC, dI) vwCl [(a_o, .inr (6, [.ref a_o_g, .ref a_o_kept, .ref a_o_was, .int o_isKept, .ref a_o_triangle, .int o_takenBy, .ref a_o_text, .int o_fed, .int o_place, .int o_letter, .int o_first, .int o_second, .ref a_o_sort, .ref a_o_size, .ref a_o_items])), (a_o_g, .inl (cI, 64, .inl o_g)), (a_o_triangle, .inl (cI, 16384, .inl o_triangle))] H → va_S A s.heap H locs → W p l e rmX7_fits s m args below meth c H locs 0 0 Q (F0 m 0 ls []) by
    subst hHe; subst hLe; exact hgo hP hS
  clear hP hS hHe hLe
  intro hP hS
  have iX7 : ∀ w ∈ wsX70, w ∈ wsX7_fits := memr_ (big := wsX7_fits) wsX70 [12, 13, 14, 15, 16, 17, 18, 19, 20, 21, 22, 23, 24, 25, 26] (by decide +kernel)
  refine lv_iconst (v := (0 : Int32)) hx hb dX7_fits_0 (by decide) ?_
  refine lv_istore_n (lv' := [(1, .int (0 : Int32)), (0, .ref a_o)]) hx hb dX7_fits_1 rfl hl (by decide) rfl (fun ls hl => ?_)
  refine lv_iconst (v := (0 : Int32)) hx hb dX7_fits_2 (by decide) ?_
  refine lv_istore_n (lv' := [(2, .int (0 : Int32)), (1, .int (0 : Int32)), (0, .ref a_o)]) hx hb dX7_fits_3 rfl hl (by decide) rfl (fun ls hl => ?_)
  have hL4 : ∀  (k_4 : Int32 → (Nat → Int32) → (Int32) → Option (Int32 × (Nat → Int32) × Int32)) (hk : ∀ (x1_4 : Int32) (xc_o_triangle_4 : Nat → Int32) (xc_o_takenBy_4 : Int32) (ls : Array Slot), lv_has ls 6 [(1, .int x1_4)] → ∀ (H : Heap) (locs : List Loc), va_P (dC, dI) vwCl [(a_o, .inr (6, [.ref a_o_g, .ref a_o_kept, .ref a_o_was, .int o_isKept, .ref a_o_triangle, .int xc_o_takenBy_4, .ref a_o_text, .int o_fed, .int o_place, .int o_letter, .int o_first, .int o_second, .ref a_o_sort, .ref a_o_size, .ref a_o_items])), (a_o_g, .inl (cI, 64, .inl o_g)), (a_o_triangle, .inl (cI, 16384, .inl xc_o_triangle_4))] H → va_S A s.heap H locs →  k_4 x1_4 xc_o_triangle_4 xc_o_takenBy_4 = some r → W p l e rmX7_fits s m args below meth c H locs 0 0 Q (F0 m 133 ls [])) (fuel : Nat) (v1_4 : Int32) (v2_4 : Int32) (o_triangle_4 : Nat → Int32) (o_takenBy_4 : Int32) (ls : Array Slot), lv_has ls 6 [(0, .ref a_o), (1, .int v1_4), (2, .int v2_4)] → ∀ (H : Heap) (locs : List Loc), va_P (dC, dI) vwCl [(a_o, .inr (6, [.ref a_o_g, .ref a_o_kept, .ref a_o_was, .int o_isKept, .ref a_o_triangle, .int o_takenBy_4, .ref a_o_text, .int o_fed, .int o_place, .int o_letter, .int o_first, .int o_second, .ref a_o_sort, .ref a_o_size, .ref a_o_items])), (a_o_g, .inl (cI, 64, .inl o_g)), (a_o_triangle, .inl (cI, 16384, .inl o_triangle_4))] H → va_S A s.heap H locs → f_X7_fits_L4 k_4 o_g fuel v1_4 v2_4 o_triangle_4 o_takenBy_4 = some r → W p l e rmX7_fits s m args below meth c H locs 0 0 Q (F0 m 4 ls []) := by
    intro k_4 hk fuel
    induction fuel with
    | zero =>
      intro v1_4 v2_4 o_triangle_4 o_takenBy_4 ls hl H locs hP hS hr
      rw [f_X7_fits_L4_z] at hr
      cases hr
    | succ fuel ih =>
      intro v1_4 v2_4 o_triangle_4 o_takenBy_4 ls hl H locs hP hS hr
      rw [f_X7_fits_L4_s] at hr
      refine lv_iload_n hx hb dX7_fits_4 rfl (lv_at hl 2 rfl) ?_
      refine lv_iconst (v := (4 : Int32)) hx hb dX7_fits_5 (by decide) ?_
      refine lv_icmp_ge (tgt := 133) hx hb dX7_fits_6 (by decide) (fun c_1 => ?_) (fun c_1 => ?_)
      · have hr := ite_p hr c_1
        exact hk v1_4 o_triangle_4 o_takenBy_4 ls (lv_sub hl [1] rfl) H locs hP hS hr
      · have hr := ite_n hr c_1
        refine lv_aload_n hx hb dX7_fits_9 rfl (lv_at hl 0 rfl) ?_
        refine lv_iload_n hx hb dX7_fits_10 rfl (lv_at hl 2 rfl) ?_
        have hJ_2 : ∀ (y_3 : Int32) (ey_3 : y_3 = (if (¬ (v2_4 = 0)) then (((2 : Int32) * v2_4) + (1 : Int32)) else (2 : Int32))) (ls : Array Slot), lv_has ls 6 [(0, .ref a_o), (1, .int v1_4), (2, .int v2_4)] → W p l e rmX7_fits s m args below meth c H locs 0 0 Q (F0 m 23 ls [.int y_3, .ref a_o]) := by
          intro y_3 ey_3 ls hl
          have hr := qn_e hr ey_3
          refine lv_aload_n hx hb dX7_fits_23 rfl (lv_at hl 0 rfl) ?_
          refine va_get (D := (dC, dI)) (ci := 6) (v := .ref a_o_g) (C := RX7) (T := TX7) (N := 15) hx hb hts iX7 hown hK hP 0 rfl rfl 0 (by decide) (hts (.fieldLink RX7 11 "PascalRowsModel" "g" "[I") (List.mem_of_getElem? (i := 1) rfl)) (fun _ h9 => h9) rfl dX7_fits_24 ?_
          refine lv_iconst (v := (1 : Int32)) hx hb dX7_fits_27 (by decide) ?_
          obtain ⟨g_4, eg_4, hg_4, hr⟩ := rd_e hr
          refine va_iald hx hb hK hP 1 0 rfl rfl hg_4 dX7_fits_28 ?_
          refine tp_ eg_4 ?_
          obtain ⟨u_5, hu_5, hr⟩ := bd_e hr
          refine ro_S ⟨hx, hb, hml, hown, hts⟩ (k_X7_power l dC dI cI cJ y_3 g_4 u_5 hu_5) (va_cwS 2 hts gX7_fits_X7_power rfl rfl rfl (by decide +kernel) ⟨Nat.le_of_ble_eq_true rfl, Nat.le_of_ble_eq_true rfl⟩) hE (hP.sub [] rfl) rfl hl.1 rfl (Nat.le_of_ble_eq_true rfl) dX7_fits_29 ⟨Nat.zero_le _, Nat.zero_le _⟩ ?_
          obtain ⟨u_6, hu_6, hr⟩ := bd_e hr
          refine mu_V ⟨hx, hb, hml, hown, hts⟩ (k_X7_takes l dC dI cI cJ a_o a_o_g a_o_kept a_o_was a_o_triangle a_o_text a_o_sort a_o_size a_o_items u_5 o_isKept o_takenBy_4 o_fed o_place o_letter o_first o_second o_triangle_4 H.size u_6 hu_6) (cwV 1 hts gX7_fits_X7_takes rfl rfl rfl (by decide +kernel) ⟨Nat.le_of_ble_eq_true rfl, Nat.le_of_ble_eq_true rfl⟩) hE 0 rfl rfl rfl rfl hl.1 rfl (Nat.le_of_ble_eq_true rfl) dX7_fits_32 ⟨Nat.zero_le _, Nat.zero_le _⟩ hP (hD.fst rfl) hS hA [0, 2] [1] [1, 0, 2] rfl rfl (by decide) (by decide) rfl (by decide) (W1 := [(a_o, .inr (6, [.ref a_o_g, .ref a_o_kept, .ref a_o_was, .int o_isKept, .ref a_o_triangle, .int u_6.2, .ref a_o_text, .int o_fed, .int o_place, .int o_letter, .int o_first, .int o_second, .ref a_o_sort, .ref a_o_size, .ref a_o_items])), (a_o_g, .inl (cI, 64, .inl o_g)), (a_o_triangle, .inl (cI, 16384, .inl u_6.1))]) rfl (fun H locs hP hS => W.eq (g2 := F0 m 35 ls []) rfl ?_)
          refine lv_iconst (v := (1 : Int32)) hx hb dX7_fits_35 (by decide) ?_
          refine lv_istore_n (lv' := [(3, .int (1 : Int32)), (0, .ref a_o), (1, .int v1_4), (2, .int v2_4)]) hx hb dX7_fits_36 rfl hl (by decide) rfl (fun ls hl => ?_)
          refine lv_iconst (v := (0 : Int32)) hx hb dX7_fits_37 (by decide) ?_
          refine lv_istore (lv' := [(4, .int (0 : Int32)), (3, .int (1 : Int32)), (0, .ref a_o), (1, .int v1_4), (2, .int v2_4)]) hx hb dX7_fits_38 hl (by decide) rfl (fun ls hl => ?_)
          have hL40 : ∀ (v1_40 : Int32) (v2_40 : Int32) (o_triangle_40 : Nat → Int32) (o_takenBy_40 : Int32) (k_40 : Int32 → Option (Int32 × (Nat → Int32) × Int32)) (hk : ∀ (x3_40 : Int32) (ls : Array Slot), lv_has ls 6 [(0, .ref a_o), (1, .int v1_40), (2, .int v2_40), (3, .int x3_40)] → ∀ (H : Heap) (locs : List Loc), va_P (dC, dI) vwCl [(a_o, .inr (6, [.ref a_o_g, .ref a_o_kept, .ref a_o_was, .int o_isKept, .ref a_o_triangle, .int o_takenBy_40, .ref a_o_text, .int o_fed, .int o_place, .int o_letter, .int o_first, .int o_second, .ref a_o_sort, .ref a_o_size, .ref a_o_items])), (a_o_g, .inl (cI, 64, .inl o_g)), (a_o_triangle, .inl (cI, 16384, .inl o_triangle_40))] H → va_S A s.heap H locs →  k_40 x3_40 = some r → W p l e rmX7_fits s m args below meth c H locs 0 0 Q (F0 m 113 ls [])) (fuel : Nat) (v3_40 : Int32) (v4_40 : Int32) (ls : Array Slot), lv_has ls 6 [(0, .ref a_o), (1, .int v1_40), (2, .int v2_40), (3, .int v3_40), (4, .int v4_40)] → ∀ (H : Heap) (locs : List Loc), va_P (dC, dI) vwCl [(a_o, .inr (6, [.ref a_o_g, .ref a_o_kept, .ref a_o_was, .int o_isKept, .ref a_o_triangle, .int o_takenBy_40, .ref a_o_text, .int o_fed, .int o_place, .int o_letter, .int o_first, .int o_second, .ref a_o_sort, .ref a_o_size, .ref a_o_items])), (a_o_g, .inl (cI, 64, .inl o_g)), (a_o_triangle, .inl (cI, 16384, .inl o_triangle_40))] H → va_S A s.heap H locs → f_X7_fits_L40 k_40 o_triangle_40 o_g fuel v3_40 v4_40 = some r → W p l e rmX7_fits s m args below meth c H locs 0 0 Q (F0 m 40 ls []) := by
            intro v1_40 v2_40 o_triangle_40 o_takenBy_40 k_40 hk fuel
            induction fuel with
            | zero =>
              intro v3_40 v4_40 ls hl H locs hP hS hr
              rw [f_X7_fits_L40_z] at hr
              cases hr
            | succ fuel ih =>
              intro v3_40 v4_40 ls hl H locs hP hS hr
              rw [f_X7_fits_L40_s] at hr
              refine lv_iload hx hb dX7_fits_40 (lv_at hl 4 rfl) ?_
              refine lv_aload_n hx hb dX7_fits_42 rfl (lv_at hl 0 rfl) ?_
              refine va_get (D := (dC, dI)) (ci := 6) (v := .ref a_o_g) (C := RX7) (T := TX7) (N := 15) hx hb hts iX7 hown hK hP 0 rfl rfl 0 (by decide) (hts (.fieldLink RX7 11 "PascalRowsModel" "g" "[I") (List.mem_of_getElem? (i := 1) rfl)) (fun _ h9 => h9) rfl dX7_fits_43 ?_
              refine lv_bipush (v := (17 : Int32)) hx hb dX7_fits_46 (by decide) ?_
              obtain ⟨g_7, eg_7, hg_7, hr⟩ := rd_e hr
              refine va_iald hx hb hK hP 1 0 rfl rfl hg_7 dX7_fits_48 ?_
              refine tp_ eg_7 ?_
              refine lv_icmp_ge (tgt := 113) hx hb dX7_fits_49 (by decide) (fun c_8 => ?_) (fun c_8 => ?_)
              · have hr := ite_p hr c_8
                exact hk v3_40 ls (lv_sub hl [0, 1, 2, 3] rfl) H locs hP hS hr
              · have hr := ite_n hr c_8
                refine lv_bipush (v := (18 : Int32)) hx hb dX7_fits_52 (by decide) ?_
                refine lv_iconst (v := (3 : Int32)) hx hb dX7_fits_54 (by decide) ?_
                refine lv_iload hx hb dX7_fits_55 (lv_at hl 4 rfl) ?_
                refine lv_imul hx hb dX7_fits_57 ?_
                refine lv_iadd hx hb dX7_fits_58 ?_
                refine lv_istore (lv' := [(5, .int ((18 : Int32) + ((3 : Int32) * v4_40))), (0, .ref a_o), (1, .int v1_40), (2, .int v2_40), (3, .int v3_40), (4, .int v4_40)]) hx hb dX7_fits_59 hl (by decide) rfl (fun ls hl => ?_)
                refine lv_iload_n hx hb dX7_fits_61 rfl (lv_at hl 4 rfl) ?_
                refine lv_aload_n hx hb dX7_fits_62 rfl (lv_at hl 1 rfl) ?_
                refine va_get (D := (dC, dI)) (ci := 6) (v := .ref a_o_triangle) (C := RX7) (T := TX7) (N := 15) hx hb hts iX7 hown hK hP 0 rfl rfl 4 (by decide) (hts (.fieldLink RX7 21 "PascalRowsModel" "triangle" "[I") (List.mem_of_getElem? (i := 2) rfl)) (fun _ h9 => h9) rfl dX7_fits_63 ?_
                refine lv_sipush (v := (128 : Int32)) hx hb dX7_fits_66 (by decide) ?_
                refine lv_aload_n hx hb dX7_fits_69 rfl (lv_at hl 1 rfl) ?_
                refine va_get (D := (dC, dI)) (ci := 6) (v := .ref a_o_g) (C := RX7) (T := TX7) (N := 15) hx hb hts iX7 hown hK hP 0 rfl rfl 0 (by decide) (hts (.fieldLink RX7 11 "PascalRowsModel" "g" "[I") (List.mem_of_getElem? (i := 1) rfl)) (fun _ h9 => h9) rfl dX7_fits_70 ?_
                refine lv_iload hx hb dX7_fits_73 (lv_at hl 0 rfl) ?_
                obtain ⟨g_9, eg_9, hg_9, hr⟩ := rd_e hr
                refine va_iald hx hb hK hP 1 0 rfl rfl hg_9 dX7_fits_75 ?_
                refine tp_ eg_9 ?_
                refine lv_imul hx hb dX7_fits_76 ?_
                refine lv_aload_n hx hb dX7_fits_77 rfl (lv_at hl 1 rfl) ?_
                refine va_get (D := (dC, dI)) (ci := 6) (v := .ref a_o_g) (C := RX7) (T := TX7) (N := 15) hx hb hts iX7 hown hK hP 0 rfl rfl 0 (by decide) (hts (.fieldLink RX7 11 "PascalRowsModel" "g" "[I") (List.mem_of_getElem? (i := 1) rfl)) (fun _ h9 => h9) rfl dX7_fits_78 ?_
                refine lv_iload hx hb dX7_fits_81 (lv_at hl 0 rfl) ?_
                refine lv_iconst (v := (1 : Int32)) hx hb dX7_fits_83 (by decide) ?_
                refine lv_iadd hx hb dX7_fits_84 ?_
                obtain ⟨g_10, eg_10, hg_10, hr⟩ := rd_e hr
                refine va_iald hx hb hK hP 1 0 rfl rfl hg_10 dX7_fits_85 ?_
                refine tp_ eg_10 ?_
                refine lv_iadd hx hb dX7_fits_86 ?_
                obtain ⟨g_11, eg_11, hg_11, hr⟩ := rd_e hr
                refine va_iald hx hb hK hP 2 0 rfl rfl hg_11 dX7_fits_87 ?_
                refine tp_ eg_11 ?_
                refine lv_aload_n hx hb dX7_fits_88 rfl (lv_at hl 1 rfl) ?_
                refine va_get (D := (dC, dI)) (ci := 6) (v := .ref a_o_g) (C := RX7) (T := TX7) (N := 15) hx hb hts iX7 hown hK hP 0 rfl rfl 0 (by decide) (hts (.fieldLink RX7 11 "PascalRowsModel" "g" "[I") (List.mem_of_getElem? (i := 1) rfl)) (fun _ h9 => h9) rfl dX7_fits_89 ?_
                refine lv_iload hx hb dX7_fits_92 (lv_at hl 0 rfl) ?_
                refine lv_iconst (v := (2 : Int32)) hx hb dX7_fits_94 (by decide) ?_
                refine lv_iadd hx hb dX7_fits_95 ?_
                obtain ⟨g_12, eg_12, hg_12, hr⟩ := rd_e hr
                refine va_iald hx hb hK hP 1 0 rfl rfl hg_12 dX7_fits_96 ?_
                refine tp_ eg_12 ?_
                have hJ_13 : ∀ (y_14 : Int32) (ey_14 : y_14 = (if (g_11 = g_12) then (1 : Int32) else (0 : Int32))) (ls : Array Slot), lv_has ls 6 [(0, .ref a_o), (1, .int v1_40), (2, .int v2_40), (4, .int v4_40)] → W p l e rmX7_fits s m args below meth c H locs 0 0 Q (F0 m 105 ls [.int y_14, .int v3_40]) := by
                  intro y_14 ey_14 ls hl
                  subst ey_14
                  refine lv_iand hx hb dX7_fits_105 ?_
                  refine lv_istore_n (lv' := [(3, .int (v3_40 &&& (if (g_11 = g_12) then (1 : Int32) else (0 : Int32)))), (0, .ref a_o), (1, .int v1_40), (2, .int v2_40), (4, .int v4_40)]) hx hb dX7_fits_106 rfl hl (by decide) rfl (fun ls hl => ?_)
                  refine lv_iinc (v := (v4_40 + (1 : Int32))) (lv' := [(4, .int (v4_40 + (1 : Int32))), (3, .int (v3_40 &&& (if (g_11 = g_12) then (1 : Int32) else (0 : Int32)))), (0, .ref a_o), (1, .int v1_40), (2, .int v2_40)]) hx hb dX7_fits_107 hl (k := 4) rfl (congrArg (fun z => v4_40 + z) (by decide)) (by decide) rfl (fun ls hl => ?_)
                  refine lv_goto (tgt := 40) hx hb dX7_fits_110 (by decide) ?_
                  exact ih (v3_40 &&& (if (g_11 = g_12) then (1 : Int32) else (0 : Int32))) (v4_40 + (1 : Int32)) ls (lv_sub hl [2, 3, 4, 1, 0] rfl) H locs hP hS hr
                refine lv_icmp_ne (tgt := 104) hx hb dX7_fits_97 (by decide) (fun c_15 => ?_) (fun c_15 => ?_)
                · refine lv_iconst (v := (0 : Int32)) hx hb dX7_fits_104 (by decide) ?_
                  exact hJ_13 _ (if_neg c_15).symm ls (lv_sub hl [1, 2, 3, 5] rfl)
                · refine lv_iconst (v := (1 : Int32)) hx hb dX7_fits_100 (by decide) ?_
                  refine lv_goto (tgt := 105) hx hb dX7_fits_101 (by decide) ?_
                  exact hJ_13 _ (if_pos c_15).symm ls (lv_sub hl [1, 2, 3, 5] rfl)
          refine hL40 v1_4 v2_4 u_6.1 u_6.2 _ (fun x3_40 ls hl H locs hP hS hr => ?_) 5000 (1 : Int32) (0 : Int32) ls (lv_sub hl [2, 3, 4, 1, 0] rfl) H locs hP hS hr
          refine lv_iload_n hx hb dX7_fits_113 rfl (lv_at hl 1 rfl) ?_
          refine lv_iload_n hx hb dX7_fits_114 rfl (lv_at hl 3 rfl) ?_
          have hJ_16 : ∀ (y_17 : Int32) (ey_17 : y_17 = (if (x3_40 = 0) then (0 : Int32) else ((1 : Int32) <<< (v2_4 &&& 31)))) (ls : Array Slot), lv_has ls 6 [(0, .ref a_o), (2, .int v2_4)] → W p l e rmX7_fits s m args below meth c H locs 0 0 Q (F0 m 125 ls [.int y_17, .int v1_4]) := by
            intro y_17 ey_17 ls hl
            subst ey_17
            refine lv_ior hx hb dX7_fits_125 ?_
            refine lv_topi (fun x_18 ex_18 => ?_)
            have hr := qn_e hr ex_18
            refine lv_istore_n (lv' := [(1, .int x_18), (0, .ref a_o), (2, .int v2_4)]) hx hb dX7_fits_126 rfl hl (by decide) rfl (fun ls hl => ?_)
            refine lv_iinc (v := (v2_4 + (1 : Int32))) (lv' := [(2, .int (v2_4 + (1 : Int32))), (1, .int x_18), (0, .ref a_o)]) hx hb dX7_fits_127 hl (k := 2) rfl (congrArg (fun z => v2_4 + z) (by decide)) (by decide) rfl (fun ls hl => ?_)
            refine lv_goto (tgt := 4) hx hb dX7_fits_130 (by decide) ?_
            exact ih x_18 (v2_4 + (1 : Int32)) u_6.1 u_6.2 ls (lv_sub hl [2, 1, 0] rfl) H locs hP hS hr
          refine lv_if_eq (tgt := 124) hx hb dX7_fits_115 (by decide) (fun c_19 => ?_) (fun c_19 => ?_)
          · refine lv_iconst (v := (0 : Int32)) hx hb dX7_fits_124 (by decide) ?_
            exact hJ_16 _ (if_pos c_19).symm ls (lv_sub hl [0, 2] rfl)
          · refine lv_iconst (v := (1 : Int32)) hx hb dX7_fits_118 (by decide) ?_
            refine lv_iload_n hx hb dX7_fits_119 rfl (lv_at hl 2 rfl) ?_
            refine lv_ishl hx hb dX7_fits_120 ?_
            refine lv_goto (tgt := 125) hx hb dX7_fits_121 (by decide) ?_
            exact hJ_16 _ (if_neg c_19).symm ls (lv_sub hl [0, 2] rfl)
        refine lv_if_ne (tgt := 18) hx hb dX7_fits_11 (by decide) (fun c_20 => ?_) (fun c_20 => ?_)
        · refine lv_iconst (v := (2 : Int32)) hx hb dX7_fits_18 (by decide) ?_
          refine lv_iload_n hx hb dX7_fits_19 rfl (lv_at hl 2 rfl) ?_
          refine lv_imul hx hb dX7_fits_20 ?_
          refine lv_iconst (v := (1 : Int32)) hx hb dX7_fits_21 (by decide) ?_
          refine lv_iadd hx hb dX7_fits_22 ?_
          exact hJ_2 _ (if_pos c_20).symm ls (lv_sub hl [0, 1, 2] rfl)
        · refine lv_iconst (v := (2 : Int32)) hx hb dX7_fits_14 (by decide) ?_
          refine lv_goto (tgt := 23) hx hb dX7_fits_15 (by decide) ?_
          exact hJ_2 _ (if_neg (fun h => h c_20)).symm ls (lv_sub hl [0, 1, 2] rfl)
  refine hL4  _ (fun x1_4 xc_o_triangle_4 xc_o_takenBy_4 ls hl H locs hP hS hr => ?_) 5000 (0 : Int32) (0 : Int32) o_triangle o_takenBy ls (lv_sub hl [2, 1, 0] rfl) H locs hP hS hr
  refine lv_iload_n hx hb dX7_fits_133 rfl (lv_at hl 0 rfl) ?_
  obtain rfl := Option.some.inj hr
  exact hret H locs _ hP hS (fun Qc free hq hf => W.iret hx hb hrt hq hf dX7_fits_134 hlocks)
/-! X7_common -/
def rmX7_common (d : Nat) : Room := { frames := d, cells := 0, slots := 0, locals := 40 * d }
set_option maxHeartbeats 4000000 in
set_option maxRecDepth 100000 in
theorem k_X7_common (l : Launch) (dC : Nat → ClassId) (dI : Nat → Nat → Nat) (cI cJ : ClassId) : ∀ (d : Nat) (p0 : Int32) (p1 : Int32) (r : Int32) (hr : f_X7_common d p0 p1 = some r), Met l yX7_common wsX7_common (rmX7_common d) (va_Pc [.int p0, .int p1] (pE (dC, dI) cI cJ [])) (rq (.int r)) 0 0 nofree := by
  intro d
  induction d with
  | zero =>
    intro p0 p1 r hr
    rw [f_X7_common_z] at hr
    cases hr
  | succ fuel ih =>
  intro p0 p1 r hr
  rw [f_X7_common_s] at hr
  refine ro_of_i (cc := cX7_common) (maxL := 2) (by decide) rfl (Nat.le_of_ble_eq_true rfl) ?_
  intro p e s m args below meth c Q ls hx hb hml hown hts hE hP hret hl
  have hK := hE.1
  have hl : lv_has ls 2 [(0, .int p0), (1, .int p1)] := hl
  refine lv_iload_n hx hb dX7_common_0 rfl (lv_at hl 1 rfl) ?_
  refine lv_if_ne (tgt := 8) hx hb dX7_common_1 (by decide) (fun c_1 => ?_) (fun c_1 => ?_)
  · have hr := ite_n hr c_1
    refine lv_iload_n hx hb dX7_common_8 rfl (lv_at hl 1 rfl) ?_
    refine lv_iload_n hx hb dX7_common_9 rfl (lv_at hl 0 rfl) ?_
    refine lv_iload_n hx hb dX7_common_10 rfl (lv_at hl 1 rfl) ?_
    obtain ⟨d_2, ed_2, hd_2, hr⟩ := md_e hr
    refine lv_irem hx hb dX7_common_11 hd_2 ?_
    refine tp_ ed_2 ?_
    obtain ⟨u_3, hu_3, hr⟩ := bd_e hr
    refine ro_S ⟨hx, hb, hml, hown, hts⟩ (ih p1 d_2 u_3 hu_3) (va_cwS 2 hts gX7_common_X7_common rfl rfl rfl (by decide +kernel) ⟨Nat.le_refl _, by show 8 + (2 + 11) + 40 * fuel ≤ 40 * (fuel + 1); omega⟩) hE (hP.sub [] rfl) rfl hl.1 rfl (Nat.le_of_ble_eq_true rfl) dX7_common_12 ⟨Nat.zero_le _, Nat.zero_le _⟩ ?_
    exact hret 15 ls _ dX7_common_15 (Option.some.inj hr)
  · have hr := ite_p hr c_1
    refine lv_iload_n hx hb dX7_common_4 rfl (lv_at hl 0 rfl) ?_
    refine lv_goto (tgt := 15) hx hb dX7_common_5 (by decide) ?_
    exact hret 15 ls _ dX7_common_15 (Option.some.inj hr)
/-! X7_fraction -/
def rmX7_fraction : Room := { frames := 201, cells := 0, slots := 0, locals := 8021 }
set_option maxHeartbeats 4000000 in
set_option maxRecDepth 100000 in
theorem k_X7_fraction (l : Launch) (dC : Nat → ClassId) (dI : Nat → Nat → Nat) (cI cJ : ClassId) (p0 : Int32) (p1 : Int32) (p2 : Int32) (r : Int64) (hr : f_X7_fraction p0 p1 p2 = some r) : Met l yX7_fraction wsX7_fraction rmX7_fraction (va_Pc [.int p0, .int p1, .int p2] (pE (dC, dI) cI cJ [])) (rq (.long r)) 0 0 nofree := by
  refine ro_of_l (cc := cX7_fraction) (maxL := 3) (by decide) rfl (Nat.le_of_ble_eq_true rfl) ?_
  intro p e s m args below meth c Q ls hx hb hml hown hts hE hP hret hl
  have hK := hE.1
  have hl : lv_has ls 3 [(0, .int p0), (1, .int p1), (2, .int p2)] := hl
  unfold f_X7_fraction at hr
  refine lv_iload_n hx hb dX7_fraction_0 rfl (lv_at hl 2 rfl) ?_
  have hJ_1 : ∀ (y_2 : Int32) (ey_2 : y_2 = (if (¬ (p2 = 0)) then p1 else p0)) (ls : Array Slot), lv_has ls 3 [(0, .int p0), (1, .int p1)] → W p l e rmX7_fraction s m args below meth c s.heap [] 0 0 Q (F0 m 9 ls [.int y_2]) := by
    intro y_2 ey_2 ls hl
    subst ey_2
    refine lv_iload_n hx hb dX7_fraction_9 rfl (lv_at hl 1 rfl) ?_
    refine lv_iload_n hx hb dX7_fraction_10 rfl (lv_at hl 0 rfl) ?_
    obtain ⟨u_3, hu_3, hr⟩ := bd_e hr
    refine ro_S ⟨hx, hb, hml, hown, hts⟩ (k_X7_common l dC dI cI cJ 200 p1 p0 u_3 hu_3) (va_cwS 2 hts gX7_fraction_X7_common rfl rfl rfl (by decide +kernel) ⟨Nat.le_of_ble_eq_true rfl, Nat.le_of_ble_eq_true rfl⟩) hE (hP.sub [] rfl) rfl hl.1 rfl (Nat.le_of_ble_eq_true rfl) dX7_fraction_11 ⟨Nat.zero_le _, Nat.zero_le _⟩ ?_
    obtain ⟨d_4, ed_4, hd_4, hr⟩ := dv_e hr
    refine lv_idiv hx hb dX7_fraction_14 hd_4 ?_
    refine tp_ ed_4 ?_
    refine lv_i2l (v := (Int32.toInt64 d_4)) hx hb dX7_fraction_15 rfl ?_
    exact hret 16 ls _ dX7_fraction_16 (Option.some.inj hr)
  refine lv_if_ne (tgt := 8) hx hb dX7_fraction_1 (by decide) (fun c_5 => ?_) (fun c_5 => ?_)
  · refine lv_iload_n hx hb dX7_fraction_8 rfl (lv_at hl 1 rfl) ?_
    exact hJ_1 _ (if_pos c_5).symm ls (lv_sub hl [0, 1] rfl)
  · refine lv_iload_n hx hb dX7_fraction_4 rfl (lv_at hl 0 rfl) ?_
    refine lv_goto (tgt := 9) hx hb dX7_fraction_5 (by decide) ?_
    exact hJ_1 _ (if_neg (fun h => h c_5)).symm ls (lv_sub hl [0, 1] rfl)
/-! X7_odds -/
def rmX7_odds : Room := { frames := 202, cells := 0, slots := 0, locals := 8043 }
set_option maxHeartbeats 4000000 in
set_option maxRecDepth 100000 in
theorem k_X7_odds (l : Launch) (dC : Nat → ClassId) (dI : Nat → Nat → Nat) (cI cJ : ClassId) (a_o : Nat) (a_o_g : Nat) (a_o_kept : Nat) (a_o_was : Nat) (a_o_triangle : Nat) (a_o_text : Nat) (a_o_sort : Nat) (a_o_size : Nat) (a_o_items : Nat) (p0 : Int32) (p1 : Int32) (p2 : Int32) (p3 : Int32) (o_isKept : Int32) (o_takenBy : Int32) (o_fed : Int32) (o_place : Int32) (o_letter : Int32) (o_first : Int32) (o_second : Int32) (o_g : Nat → Int32) (o_triangle : Nat → Int32) (sz : Nat) (r : Int64 × (Nat → Int32) × Int32) (hr : f_X7_odds p0 p1 p2 p3 o_g o_triangle o_takenBy = some r) : Met l yX7_odds wsX7_odds rmX7_odds (va_Pc [.ref a_o, .int p0, .int p1, .int p2, .int p3] (pM (dC, dI) cI cJ [(a_o, .inr (6, [.ref a_o_g, .ref a_o_kept, .ref a_o_was, .int o_isKept, .ref a_o_triangle, .int o_takenBy, .ref a_o_text, .int o_fed, .int o_place, .int o_letter, .int o_first, .int o_second, .ref a_o_sort, .ref a_o_size, .ref a_o_items])), (a_o_g, .inl (cI, 64, .inl o_g)), (a_o_triangle, .inl (cI, 16384, .inl o_triangle))] sz)) (qM (some (.long r.1)) (dC, dI) [(a_o, .inr (6, [.ref a_o_g, .ref a_o_kept, .ref a_o_was, .int o_isKept, .ref a_o_triangle, .int r.2.2, .ref a_o_text, .int o_fed, .int o_place, .int o_letter, .int o_first, .int o_second, .ref a_o_sort, .ref a_o_size, .ref a_o_items])), (a_o_g, .inl (cI, 64, .inl o_g)), (a_o_triangle, .inl (cI, 16384, .inl r.2.1))] (va_A [(a_o, .inr (6, [.ref a_o_g, .ref a_o_kept, .ref a_o_was, .int o_isKept, .ref a_o_triangle, .int o_takenBy, .ref a_o_text, .int o_fed, .int o_place, .int o_letter, .int o_first, .int o_second, .ref a_o_sort, .ref a_o_size, .ref a_o_items])), (a_o_g, .inl (cI, 64, .inl o_g)), (a_o_triangle, .inl (cI, 16384, .inl o_triangle))] sz)) 0 0 (va_A [(a_o, .inr (6, [.ref a_o_g, .ref a_o_kept, .ref a_o_was, .int o_isKept, .ref a_o_triangle, .int o_takenBy, .ref a_o_text, .int o_fed, .int o_place, .int o_letter, .int o_first, .int o_second, .ref a_o_sort, .ref a_o_size, .ref a_o_items])), (a_o_g, .inl (cI, 64, .inl o_g)), (a_o_triangle, .inl (cI, 16384, .inl o_triangle))] sz) := by
  refine mu_of (cc := cX7_odds) (maxL := 7) (by decide) rfl (Nat.le_of_ble_eq_true rfl) ?_
  intro p e s m args below meth c Q ls A hx hb hml hown hts hE hP hD hA hrt hlocks hret hl
  have hK := hE.1
  have hS : va_S A s.heap s.heap [] := va_S.rf
  have hl : lv_has ls 7 [(0, .ref a_o), (1, .int p0), (2, .int p1), (3, .int p2), (4, .int p3)] := hl
  unfold f_X7_odds at hr
  obtain ⟨H, hHe⟩ : ∃ H, H = s.heap := ⟨_, rfl⟩
  obtain ⟨locs, hLe⟩ : ∃ locs : List Loc, locs = [] := ⟨_, rfl⟩
  suffices hgo : va_P (dC, dI) vwCl [(a_o, .inr (6, [.ref a_o_g, .ref a_o_kept, .ref a_o_was, .int o_isKept, .ref a_o_triangle, .int o_takenBy, .ref a_o_text, .int o_fed, .int o_place, .int o_letter, .int o_first, .int o_second, .ref a_o_sort, .ref a_o_size, .ref a_o_items])), (a_o_g, .inl (cI, 64, .inl o_g)), (a_o_triangle, .inl (cI, 16384, .inl o_triangle))] H → va_S A s.heap H locs → W p l e rmX7_odds s m args below meth c H locs 0 0 Q (F0 m 0 ls []) by
    subst hHe; subst hLe; exact hgo hP hS
  clear hP hS hHe hLe
  intro hP hS
  have iX7 : ∀ w ∈ wsX70, w ∈ wsX7_odds := memr_ (big := wsX7_odds) wsX70 [61, 62, 63, 64, 65, 66, 67, 68, 69, 70, 71, 72, 73, 74, 75] (by decide +kernel)
  refine lv_iload_n hx hb dX7_odds_0 rfl (lv_at hl 1 rfl) ?_
  refine ro_S ⟨hx, hb, hml, hown, hts⟩ (k_X7_isRow l dC dI cI cJ p0) (va_cwS 1 hts gX7_odds_X7_isRow rfl rfl rfl (by decide +kernel) ⟨Nat.le_of_ble_eq_true rfl, Nat.le_of_ble_eq_true rfl⟩) hE (hP.sub [] rfl) rfl hl.1 rfl (Nat.le_of_ble_eq_true rfl) dX7_odds_1 ⟨Nat.zero_le _, Nat.zero_le _⟩ ?_
  have tT_2 : (((f_X7_isRow p0) = 0) ∨ (((f_X7_isKind p1) = 0) ∨ ((f_X7_isIn (Int32.toInt64 p3) (0 : Int64) (1 : Int64)) = 0))) → W p l e rmX7_odds s m args below meth c H locs 0 0 Q (F0 m 25 ls []) := by
    intro hc_1
    have hr := ite_p hr hc_1
    refine lv_ldc2 (v := (-9223372036854775808 : Int64)) hx hb hown (hts (.constantLong RX7 185 (-9223372036854775808)) (List.mem_of_getElem? (i := 1) rfl)) dX7_odds_25 ?_
    obtain rfl := Option.some.inj hr
    exact hret H locs _ hP hS (fun Qc free hq hf => W.lret hx hb hrt hq hf dX7_odds_28 hlocks)
  have tF_3 : ¬ (((f_X7_isRow p0) = 0) ∨ (((f_X7_isKind p1) = 0) ∨ ((f_X7_isIn (Int32.toInt64 p3) (0 : Int64) (1 : Int64)) = 0))) → W p l e rmX7_odds s m args below meth c H locs 0 0 Q (F0 m 29 ls []) := by
    intro hc_1
    have hr := ite_n hr hc_1
    refine lv_iconst (v := (0 : Int32)) hx hb dX7_odds_29 (by decide) ?_
    refine lv_istore (lv' := [(5, .int (0 : Int32)), (0, .ref a_o), (1, .int p0), (2, .int p1), (3, .int p2), (4, .int p3)]) hx hb dX7_odds_30 hl (by decide) rfl (fun ls hl => ?_)
    refine lv_iconst (v := (0 : Int32)) hx hb dX7_odds_32 (by decide) ?_
    refine lv_istore (lv' := [(6, .int (0 : Int32)), (5, .int (0 : Int32)), (0, .ref a_o), (1, .int p0), (2, .int p1), (3, .int p2), (4, .int p3)]) hx hb dX7_odds_33 hl (by decide) rfl (fun ls hl => ?_)
    have hL35 : ∀ (v1_35 : Int32) (v2_35 : Int32) (v3_35 : Int32) (v4_35 : Int32) (k_35 : Int32 → (Nat → Int32) → (Int32) → Option (Int64 × (Nat → Int32) × Int32)) (hk : ∀ (x5_35 : Int32) (xc_o_triangle_35 : Nat → Int32) (xc_o_takenBy_35 : Int32) (ls : Array Slot), lv_has ls 7 [(1, .int v1_35), (4, .int v4_35), (5, .int x5_35)] → ∀ (H : Heap) (locs : List Loc), va_P (dC, dI) vwCl [(a_o, .inr (6, [.ref a_o_g, .ref a_o_kept, .ref a_o_was, .int o_isKept, .ref a_o_triangle, .int xc_o_takenBy_35, .ref a_o_text, .int o_fed, .int o_place, .int o_letter, .int o_first, .int o_second, .ref a_o_sort, .ref a_o_size, .ref a_o_items])), (a_o_g, .inl (cI, 64, .inl o_g)), (a_o_triangle, .inl (cI, 16384, .inl xc_o_triangle_35))] H → va_S A s.heap H locs →  k_35 x5_35 xc_o_triangle_35 xc_o_takenBy_35 = some r → W p l e rmX7_odds s m args below meth c H locs 0 0 Q (F0 m 69 ls [])) (fuel : Nat) (v5_35 : Int32) (v6_35 : Int32) (o_triangle_35 : Nat → Int32) (o_takenBy_35 : Int32) (ls : Array Slot), lv_has ls 7 [(0, .ref a_o), (1, .int v1_35), (2, .int v2_35), (3, .int v3_35), (4, .int v4_35), (5, .int v5_35), (6, .int v6_35)] → ∀ (H : Heap) (locs : List Loc), va_P (dC, dI) vwCl [(a_o, .inr (6, [.ref a_o_g, .ref a_o_kept, .ref a_o_was, .int o_isKept, .ref a_o_triangle, .int o_takenBy_35, .ref a_o_text, .int o_fed, .int o_place, .int o_letter, .int o_first, .int o_second, .ref a_o_sort, .ref a_o_size, .ref a_o_items])), (a_o_g, .inl (cI, 64, .inl o_g)), (a_o_triangle, .inl (cI, 16384, .inl o_triangle_35))] H → va_S A s.heap H locs → f_X7_odds_L35 k_35 v1_35 v2_35 v3_35 o_g fuel v5_35 v6_35 o_triangle_35 o_takenBy_35 = some r → W p l e rmX7_odds s m args below meth c H locs 0 0 Q (F0 m 35 ls []) := by
      intro v1_35 v2_35 v3_35 v4_35 k_35 hk fuel
      induction fuel with
      | zero =>
        intro v5_35 v6_35 o_triangle_35 o_takenBy_35 ls hl H locs hP hS hr
        rw [f_X7_odds_L35_z] at hr
        cases hr
      | succ fuel ih =>
        intro v5_35 v6_35 o_triangle_35 o_takenBy_35 ls hl H locs hP hS hr
        rw [f_X7_odds_L35_s] at hr
        refine lv_iload hx hb dX7_odds_35 (lv_at hl 6 rfl) ?_
        refine lv_iload_n hx hb dX7_odds_37 rfl (lv_at hl 1 rfl) ?_
        refine lv_icmp_gt (tgt := 69) hx hb dX7_odds_38 (by decide) (fun c_4 => ?_) (fun c_4 => ?_)
        · have hr := ite_p hr c_4
          exact hk v5_35 o_triangle_35 o_takenBy_35 ls (lv_sub hl [1, 4, 5] rfl) H locs hP hS hr
        · have hr := ite_n hr c_4
          refine lv_iload hx hb dX7_odds_41 (lv_at hl 5 rfl) ?_
          refine lv_aload_n hx hb dX7_odds_43 rfl (lv_at hl 0 rfl) ?_
          refine lv_iload_n hx hb dX7_odds_44 rfl (lv_at hl 2 rfl) ?_
          refine lv_iload_n hx hb dX7_odds_45 rfl (lv_at hl 1 rfl) ?_
          refine lv_iload hx hb dX7_odds_46 (lv_at hl 6 rfl) ?_
          obtain ⟨u_5, hu_5, hr⟩ := bd_e hr
          refine mu_V ⟨hx, hb, hml, hown, hts⟩ (k_X7_tells l dC dI cI cJ a_o a_o_g a_o_kept a_o_was a_o_triangle a_o_text a_o_sort a_o_size a_o_items v2_35 v1_35 v6_35 o_isKept o_takenBy_35 o_fed o_place o_letter o_first o_second o_g o_triangle_35 H.size u_5 hu_5) (cwV 3 hts gX7_odds_X7_tells rfl rfl rfl (by decide +kernel) ⟨Nat.le_of_ble_eq_true rfl, Nat.le_of_ble_eq_true rfl⟩) hE 0 rfl rfl rfl rfl hl.1 rfl (Nat.le_of_ble_eq_true rfl) dX7_odds_48 ⟨Nat.zero_le _, Nat.zero_le _⟩ hP (hD.fst rfl) hS hA [0, 1, 2] [] [0, 1, 2] rfl rfl (by decide) (by decide) rfl (by decide) (W1 := [(a_o, .inr (6, [.ref a_o_g, .ref a_o_kept, .ref a_o_was, .int o_isKept, .ref a_o_triangle, .int u_5.2.2, .ref a_o_text, .int o_fed, .int o_place, .int o_letter, .int o_first, .int o_second, .ref a_o_sort, .ref a_o_size, .ref a_o_items])), (a_o_g, .inl (cI, 64, .inl o_g)), (a_o_triangle, .inl (cI, 16384, .inl u_5.2.1))]) rfl (fun H locs hP hS => W.eq (g2 := F0 m 51 ls [.int u_5.1, .int v5_35]) rfl ?_)
          refine lv_iload_n hx hb dX7_odds_51 rfl (lv_at hl 3 rfl) ?_
          have hJ_6 : ∀ (y_7 : Int32) (ey_7 : y_7 = (if (u_5.1 = v3_35) then (1 : Int32) else (0 : Int32))) (ls : Array Slot), lv_has ls 7 [(0, .ref a_o), (1, .int v1_35), (2, .int v2_35), (3, .int v3_35), (4, .int v4_35), (6, .int v6_35)] → W p l e rmX7_odds s m args below meth c H locs 0 0 Q (F0 m 60 ls [.int y_7, .int v5_35]) := by
            intro y_7 ey_7 ls hl
            subst ey_7
            refine lv_iadd hx hb dX7_odds_60 ?_
            refine lv_istore (lv' := [(5, .int (v5_35 + (if (u_5.1 = v3_35) then (1 : Int32) else (0 : Int32)))), (0, .ref a_o), (1, .int v1_35), (2, .int v2_35), (3, .int v3_35), (4, .int v4_35), (6, .int v6_35)]) hx hb dX7_odds_61 hl (by decide) rfl (fun ls hl => ?_)
            refine lv_iinc (v := (v6_35 + (1 : Int32))) (lv' := [(6, .int (v6_35 + (1 : Int32))), (5, .int (v5_35 + (if (u_5.1 = v3_35) then (1 : Int32) else (0 : Int32)))), (0, .ref a_o), (1, .int v1_35), (2, .int v2_35), (3, .int v3_35), (4, .int v4_35)]) hx hb dX7_odds_63 hl (k := 6) rfl (congrArg (fun z => v6_35 + z) (by decide)) (by decide) rfl (fun ls hl => ?_)
            refine lv_goto (tgt := 35) hx hb dX7_odds_66 (by decide) ?_
            exact ih (v5_35 + (if (u_5.1 = v3_35) then (1 : Int32) else (0 : Int32))) (v6_35 + (1 : Int32)) u_5.2.1 u_5.2.2 ls (lv_sub hl [2, 3, 4, 5, 6, 1, 0] rfl) H locs hP hS hr
          refine lv_icmp_ne (tgt := 59) hx hb dX7_odds_52 (by decide) (fun c_8 => ?_) (fun c_8 => ?_)
          · refine lv_iconst (v := (0 : Int32)) hx hb dX7_odds_59 (by decide) ?_
            exact hJ_6 _ (if_neg c_8).symm ls (lv_sub hl [0, 1, 2, 3, 4, 6] rfl)
          · refine lv_iconst (v := (1 : Int32)) hx hb dX7_odds_55 (by decide) ?_
            refine lv_goto (tgt := 60) hx hb dX7_odds_56 (by decide) ?_
            exact hJ_6 _ (if_pos c_8).symm ls (lv_sub hl [0, 1, 2, 3, 4, 6] rfl)
    refine hL35 p0 p1 p2 p3 _ (fun x5_35 xc_o_triangle_35 xc_o_takenBy_35 ls hl H locs hP hS hr => ?_) 5000 (0 : Int32) (0 : Int32) o_triangle o_takenBy ls (lv_sub hl [2, 3, 4, 5, 6, 1, 0] rfl) H locs hP hS hr
    refine lv_iload hx hb dX7_odds_69 (lv_at hl 2 rfl) ?_
    refine lv_iload_n hx hb dX7_odds_71 rfl (lv_at hl 0 rfl) ?_
    refine lv_iconst (v := (1 : Int32)) hx hb dX7_odds_72 (by decide) ?_
    refine lv_iadd hx hb dX7_odds_73 ?_
    refine lv_iload hx hb dX7_odds_74 (lv_at hl 1 rfl) ?_
    obtain ⟨u_9, hu_9, hr⟩ := bd_e hr
    refine ro_S ⟨hx, hb, hml, hown, hts⟩ (k_X7_fraction l dC dI cI cJ x5_35 (p0 + (1 : Int32)) p3 u_9 hu_9) (va_cwS 3 hts gX7_odds_X7_fraction rfl rfl rfl (by decide +kernel) ⟨Nat.le_of_ble_eq_true rfl, Nat.le_of_ble_eq_true rfl⟩) hE (hP.sub [] rfl) rfl hl.1 rfl (Nat.le_of_ble_eq_true rfl) dX7_odds_76 ⟨Nat.zero_le _, Nat.zero_le _⟩ ?_
    obtain rfl := Option.some.inj hr
    exact hret H locs _ hP hS (fun Qc free hq hf => W.lret hx hb hrt hq hf dX7_odds_79 hlocks)
  refine lv_if_eq (tgt := 25) hx hb dX7_odds_4 (by decide) (fun c_10 => ?_) (fun c_10 => ?_)
  · exact tT_2 (Or.inl c_10)
  · refine lv_iload_n hx hb dX7_odds_7 rfl (lv_at hl 2 rfl) ?_
    refine ro_S ⟨hx, hb, hml, hown, hts⟩ (k_X7_isKind l dC dI cI cJ p1) (va_cwS 1 hts gX7_odds_X7_isKind rfl rfl rfl (by decide +kernel) ⟨Nat.le_of_ble_eq_true rfl, Nat.le_of_ble_eq_true rfl⟩) hE (hP.sub [] rfl) rfl hl.1 rfl (Nat.le_of_ble_eq_true rfl) dX7_odds_8 ⟨Nat.zero_le _, Nat.zero_le _⟩ ?_
    refine lv_if_eq (tgt := 25) hx hb dX7_odds_11 (by decide) (fun c_11 => ?_) (fun c_11 => ?_)
    · exact tT_2 (Or.inr (Or.inl c_11))
    · refine lv_iload hx hb dX7_odds_14 (lv_at hl 4 rfl) ?_
      refine lv_i2l (v := (Int32.toInt64 p3)) hx hb dX7_odds_16 rfl ?_
      refine lv_lconst (v := (0 : Int64)) hx hb dX7_odds_17 (by decide) ?_
      refine lv_lconst (v := (1 : Int64)) hx hb dX7_odds_18 (by decide) ?_
      refine ro_S ⟨hx, hb, hml, hown, hts⟩ (k_X7_isIn l dC dI cI cJ (Int32.toInt64 p3) (0 : Int64) (1 : Int64)) (va_cwS 3 hts gX7_odds_X7_isIn rfl rfl rfl (by decide +kernel) ⟨Nat.le_of_ble_eq_true rfl, Nat.le_of_ble_eq_true rfl⟩) hE (hP.sub [] rfl) rfl hl.1 rfl (Nat.le_of_ble_eq_true rfl) dX7_odds_19 ⟨Nat.zero_le _, Nat.zero_le _⟩ ?_
      refine lv_if_ne (tgt := 29) hx hb dX7_odds_22 (by decide) (fun c_12 => ?_) (fun c_12 => ?_)
      · exact tF_3 (fun h => h.elim c_10 (fun h => h.elim c_11 c_12))
      · exact tT_2 (Or.inr (Or.inr c_12))
/-! X7_mean -/
def rmX7_mean : Room := { frames := 202, cells := 0, slots := 0, locals := 8043 }
set_option maxHeartbeats 4000000 in
set_option maxRecDepth 100000 in
theorem k_X7_mean (l : Launch) (dC : Nat → ClassId) (dI : Nat → Nat → Nat) (cI cJ : ClassId) (a_o : Nat) (a_o_g : Nat) (a_o_kept : Nat) (a_o_was : Nat) (a_o_triangle : Nat) (a_o_text : Nat) (a_o_sort : Nat) (a_o_size : Nat) (a_o_items : Nat) (p0 : Int32) (p1 : Int32) (o_isKept : Int32) (o_takenBy : Int32) (o_fed : Int32) (o_place : Int32) (o_letter : Int32) (o_first : Int32) (o_second : Int32) (o_g : Nat → Int32) (o_triangle : Nat → Int32) (sz : Nat) (r : Int64 × (Nat → Int32) × Int32) (hr : f_X7_mean p0 p1 o_g o_triangle o_takenBy = some r) : Met l yX7_mean wsX7_mean rmX7_mean (va_Pc [.ref a_o, .int p0, .int p1] (pM (dC, dI) cI cJ [(a_o, .inr (6, [.ref a_o_g, .ref a_o_kept, .ref a_o_was, .int o_isKept, .ref a_o_triangle, .int o_takenBy, .ref a_o_text, .int o_fed, .int o_place, .int o_letter, .int o_first, .int o_second, .ref a_o_sort, .ref a_o_size, .ref a_o_items])), (a_o_g, .inl (cI, 64, .inl o_g)), (a_o_triangle, .inl (cI, 16384, .inl o_triangle))] sz)) (qM (some (.long r.1)) (dC, dI) [(a_o, .inr (6, [.ref a_o_g, .ref a_o_kept, .ref a_o_was, .int o_isKept, .ref a_o_triangle, .int r.2.2, .ref a_o_text, .int o_fed, .int o_place, .int o_letter, .int o_first, .int o_second, .ref a_o_sort, .ref a_o_size, .ref a_o_items])), (a_o_g, .inl (cI, 64, .inl o_g)), (a_o_triangle, .inl (cI, 16384, .inl r.2.1))] (va_A [(a_o, .inr (6, [.ref a_o_g, .ref a_o_kept, .ref a_o_was, .int o_isKept, .ref a_o_triangle, .int o_takenBy, .ref a_o_text, .int o_fed, .int o_place, .int o_letter, .int o_first, .int o_second, .ref a_o_sort, .ref a_o_size, .ref a_o_items])), (a_o_g, .inl (cI, 64, .inl o_g)), (a_o_triangle, .inl (cI, 16384, .inl o_triangle))] sz)) 0 0 (va_A [(a_o, .inr (6, [.ref a_o_g, .ref a_o_kept, .ref a_o_was, .int o_isKept, .ref a_o_triangle, .int o_takenBy, .ref a_o_text, .int o_fed, .int o_place, .int o_letter, .int o_first, .int o_second, .ref a_o_sort, .ref a_o_size, .ref a_o_items])), (a_o_g, .inl (cI, 64, .inl o_g)), (a_o_triangle, .inl (cI, 16384, .inl o_triangle))] sz) := by
  refine mu_of (cc := cX7_mean) (maxL := 3) (by decide) rfl (Nat.le_of_ble_eq_true rfl) ?_
  intro p e s m args below meth c Q ls A hx hb hml hown hts hE hP hD hA hrt hlocks hret hl
  have hK := hE.1
  have hS : va_S A s.heap s.heap [] := va_S.rf
  have hl : lv_has ls 3 [(0, .ref a_o), (1, .int p0), (2, .int p1)] := hl
  unfold f_X7_mean at hr
  obtain ⟨H, hHe⟩ : ∃ H, H = s.heap := ⟨_, rfl⟩
  obtain ⟨locs, hLe⟩ : ∃ locs : List Loc, locs = [] := ⟨_, rfl⟩
  suffices hgo : va_P (dC, dI) vwCl [(a_o, .inr (6, [.ref a_o_g, .ref a_o_kept, .ref a_o_was, .int o_isKept, .ref a_o_triangle, .int o_takenBy, .ref a_o_text, .int o_fed, .int o_place, .int o_letter, .int o_first, .int o_second, .ref a_o_sort, .ref a_o_size, .ref a_o_items])), (a_o_g, .inl (cI, 64, .inl o_g)), (a_o_triangle, .inl (cI, 16384, .inl o_triangle))] H → va_S A s.heap H locs → W p l e rmX7_mean s m args below meth c H locs 0 0 Q (F0 m 0 ls []) by
    subst hHe; subst hLe; exact hgo hP hS
  clear hP hS hHe hLe
  intro hP hS
  have iX7 : ∀ w ∈ wsX70, w ∈ wsX7_mean := memr_ (big := wsX7_mean) wsX70 [38, 39, 40, 41, 42, 43, 44, 45, 46, 47, 48, 49, 50, 51, 52] (by decide +kernel)
  refine lv_iload_n hx hb dX7_mean_0 rfl (lv_at hl 1 rfl) ?_
  refine ro_S ⟨hx, hb, hml, hown, hts⟩ (k_X7_isRow l dC dI cI cJ p0) (va_cwS 1 hts gX7_mean_X7_isRow rfl rfl rfl (by decide +kernel) ⟨Nat.le_of_ble_eq_true rfl, Nat.le_of_ble_eq_true rfl⟩) hE (hP.sub [] rfl) rfl hl.1 rfl (Nat.le_of_ble_eq_true rfl) dX7_mean_1 ⟨Nat.zero_le _, Nat.zero_le _⟩ ?_
  have tT_2 : ((¬ ((f_X7_isRow p0) = 0)) ∧ (¬ ((f_X7_isIn (Int32.toInt64 p1) (0 : Int64) (1 : Int64)) = 0))) → W p l e rmX7_mean s m args below meth c H locs 0 0 Q (F0 m 17 ls []) := by
    intro hc_1
    have hr := ite_p hr hc_1
    refine lv_aload_n hx hb dX7_mean_17 rfl (lv_at hl 0 rfl) ?_
    refine lv_iload_n hx hb dX7_mean_18 rfl (lv_at hl 1 rfl) ?_
    obtain ⟨u_3, hu_3, hr⟩ := bd_e hr
    refine mu_V ⟨hx, hb, hml, hown, hts⟩ (k_X7_sumOf l dC dI cI cJ a_o a_o_g a_o_kept a_o_was a_o_triangle a_o_text a_o_sort a_o_size a_o_items p0 o_isKept o_takenBy o_fed o_place o_letter o_first o_second o_g o_triangle H.size u_3 hu_3) (cwV 1 hts gX7_mean_X7_sumOf rfl rfl rfl (by decide +kernel) ⟨Nat.le_of_ble_eq_true rfl, Nat.le_of_ble_eq_true rfl⟩) hE 0 rfl rfl rfl rfl hl.1 rfl (Nat.le_of_ble_eq_true rfl) dX7_mean_19 ⟨Nat.zero_le _, Nat.zero_le _⟩ hP (hD.fst rfl) hS hA [0, 1, 2] [] [0, 1, 2] rfl rfl (by decide) (by decide) rfl (by decide) (W1 := [(a_o, .inr (6, [.ref a_o_g, .ref a_o_kept, .ref a_o_was, .int o_isKept, .ref a_o_triangle, .int u_3.2.2, .ref a_o_text, .int o_fed, .int o_place, .int o_letter, .int o_first, .int o_second, .ref a_o_sort, .ref a_o_size, .ref a_o_items])), (a_o_g, .inl (cI, 64, .inl o_g)), (a_o_triangle, .inl (cI, 16384, .inl u_3.2.1))]) rfl (fun H locs hP hS => W.eq (g2 := F0 m 22 ls [.int u_3.1]) rfl ?_)
    refine lv_iload_n hx hb dX7_mean_22 rfl (lv_at hl 1 rfl) ?_
    refine lv_iconst (v := (1 : Int32)) hx hb dX7_mean_23 (by decide) ?_
    refine lv_iadd hx hb dX7_mean_24 ?_
    refine lv_iload_n hx hb dX7_mean_25 rfl (lv_at hl 2 rfl) ?_
    obtain ⟨u_4, hu_4, hr⟩ := bd_e hr
    refine ro_S ⟨hx, hb, hml, hown, hts⟩ (k_X7_fraction l dC dI cI cJ u_3.1 (p0 + (1 : Int32)) p1 u_4 hu_4) (va_cwS 3 hts gX7_mean_X7_fraction rfl rfl rfl (by decide +kernel) ⟨Nat.le_of_ble_eq_true rfl, Nat.le_of_ble_eq_true rfl⟩) hE (hP.sub [] rfl) rfl hl.1 rfl (Nat.le_of_ble_eq_true rfl) dX7_mean_26 ⟨Nat.zero_le _, Nat.zero_le _⟩ ?_
    refine lv_goto (tgt := 35) hx hb dX7_mean_29 (by decide) ?_
    obtain rfl := Option.some.inj hr
    exact hret H locs _ hP hS (fun Qc free hq hf => W.lret hx hb hrt hq hf dX7_mean_35 hlocks)
  have tF_5 : ¬ ((¬ ((f_X7_isRow p0) = 0)) ∧ (¬ ((f_X7_isIn (Int32.toInt64 p1) (0 : Int64) (1 : Int64)) = 0))) → W p l e rmX7_mean s m args below meth c H locs 0 0 Q (F0 m 32 ls []) := by
    intro hc_1
    have hr := ite_n hr hc_1
    refine lv_ldc2 (v := (-9223372036854775808 : Int64)) hx hb hown (hts (.constantLong RX7 185 (-9223372036854775808)) (List.mem_of_getElem? (i := 1) rfl)) dX7_mean_32 ?_
    obtain rfl := Option.some.inj hr
    exact hret H locs _ hP hS (fun Qc free hq hf => W.lret hx hb hrt hq hf dX7_mean_35 hlocks)
  refine lv_if_eq (tgt := 32) hx hb dX7_mean_4 (by decide) (fun c_6 => ?_) (fun c_6 => ?_)
  · exact tF_5 (fun h => (fun h => h c_6) h.1)
  · refine lv_iload_n hx hb dX7_mean_7 rfl (lv_at hl 2 rfl) ?_
    refine lv_i2l (v := (Int32.toInt64 p1)) hx hb dX7_mean_8 rfl ?_
    refine lv_lconst (v := (0 : Int64)) hx hb dX7_mean_9 (by decide) ?_
    refine lv_lconst (v := (1 : Int64)) hx hb dX7_mean_10 (by decide) ?_
    refine ro_S ⟨hx, hb, hml, hown, hts⟩ (k_X7_isIn l dC dI cI cJ (Int32.toInt64 p1) (0 : Int64) (1 : Int64)) (va_cwS 3 hts gX7_mean_X7_isIn rfl rfl rfl (by decide +kernel) ⟨Nat.le_of_ble_eq_true rfl, Nat.le_of_ble_eq_true rfl⟩) hE (hP.sub [] rfl) rfl hl.1 rfl (Nat.le_of_ble_eq_true rfl) dX7_mean_11 ⟨Nat.zero_le _, Nat.zero_le _⟩ ?_
    refine lv_if_eq (tgt := 32) hx hb dX7_mean_14 (by decide) (fun c_7 => ?_) (fun c_7 => ?_)
    · exact tF_5 (fun h => (fun h => h c_7) h.2)
    · exact tT_2 ⟨c_6, c_7⟩
/-! X7_event -/
def rmX7_event : Room := { frames := 1, cells := 0, slots := 0, locals := 25 }
set_option maxHeartbeats 4000000 in
set_option maxRecDepth 100000 in
theorem k_X7_event (l : Launch) (dC : Nat → ClassId) (dI : Nat → Nat → Nat) (cI cJ : ClassId) (a_o : Nat) (a_o_g : Nat) (a_o_kept : Nat) (a_o_was : Nat) (a_o_triangle : Nat) (a_o_text : Nat) (a_o_sort : Nat) (a_o_size : Nat) (a_o_items : Nat) (p0 : Int32) (p1 : Int32) (o_isKept : Int32) (o_takenBy : Int32) (o_fed : Int32) (o_place : Int32) (o_letter : Int32) (o_first : Int32) (o_second : Int32) (o_g : Nat → Int32) (sz : Nat) (r : Int32 × (Nat → Int32)) (hr : f_X7_event p0 p1 o_g = some r) : Met l yX7_event wsX7_event rmX7_event (va_Pc [.ref a_o, .int p0, .int p1] (pM (dC, dI) cI cJ [(a_o, .inr (6, [.ref a_o_g, .ref a_o_kept, .ref a_o_was, .int o_isKept, .ref a_o_triangle, .int o_takenBy, .ref a_o_text, .int o_fed, .int o_place, .int o_letter, .int o_first, .int o_second, .ref a_o_sort, .ref a_o_size, .ref a_o_items])), (a_o_g, .inl (cI, 64, .inl o_g))] sz)) (qM (some (.int r.1)) (dC, dI) [(a_o, .inr (6, [.ref a_o_g, .ref a_o_kept, .ref a_o_was, .int o_isKept, .ref a_o_triangle, .int o_takenBy, .ref a_o_text, .int o_fed, .int o_place, .int o_letter, .int o_first, .int o_second, .ref a_o_sort, .ref a_o_size, .ref a_o_items])), (a_o_g, .inl (cI, 64, .inl r.2))] (va_A [(a_o, .inr (6, [.ref a_o_g, .ref a_o_kept, .ref a_o_was, .int o_isKept, .ref a_o_triangle, .int o_takenBy, .ref a_o_text, .int o_fed, .int o_place, .int o_letter, .int o_first, .int o_second, .ref a_o_sort, .ref a_o_size, .ref a_o_items])), (a_o_g, .inl (cI, 64, .inl o_g))] sz)) 0 0 (va_A [(a_o, .inr (6, [.ref a_o_g, .ref a_o_kept, .ref a_o_was, .int o_isKept, .ref a_o_triangle, .int o_takenBy, .ref a_o_text, .int o_fed, .int o_place, .int o_letter, .int o_first, .int o_second, .ref a_o_sort, .ref a_o_size, .ref a_o_items])), (a_o_g, .inl (cI, 64, .inl o_g))] sz) := by
  refine mu_of (cc := cX7_event) (maxL := 3) (by decide) rfl (Nat.le_of_ble_eq_true rfl) ?_
  intro p e s m args below meth c Q ls A hx hb hml hown hts hE hP hD hA hrt hlocks hret hl
  have hK := hE.1
  have hS : va_S A s.heap s.heap [] := va_S.rf
  have hl : lv_has ls 3 [(0, .ref a_o), (1, .int p0), (2, .int p1)] := hl
  unfold f_X7_event at hr
  obtain ⟨H, hHe⟩ : ∃ H, H = s.heap := ⟨_, rfl⟩
  obtain ⟨locs, hLe⟩ : ∃ locs : List Loc, locs = [] := ⟨_, rfl⟩
  suffices hgo : va_P (dC, dI) vwCl [(a_o, .inr (6, [.ref a_o_g, .ref a_o_kept, .ref a_o_was, .int o_isKept, .ref a_o_triangle, .int o_takenBy, .ref a_o_text, .int o_fed, .int o_place, .int o_letter, .int o_first, .int o_second, .ref a_o_sort, .ref a_o_size, .ref a_o_items])), (a_o_g, .inl (cI, 64, .inl o_g))] H → va_S A s.heap H locs → W p l e rmX7_event s m args below meth c H locs 0 0 Q (F0 m 0 ls []) by
    subst hHe; subst hLe; exact hgo hP hS
  clear hP hS hHe hLe
  intro hP hS
  have iX7 : ∀ w ∈ wsX70, w ∈ wsX7_event := memr_ (big := wsX7_event) wsX70 [10, 11, 12, 13, 14, 15, 16, 17, 18, 19, 20, 21, 22, 23, 24] (by decide +kernel)
  refine lv_iload_n hx hb dX7_event_0 rfl (lv_at hl 1 rfl) ?_
  refine lv_iconst (v := (-1 : Int32)) hx hb dX7_event_1 (by decide) ?_
  refine lv_icmp_ne (tgt := 15) hx hb dX7_event_2 (by decide) (fun c_1 => ?_) (fun c_1 => ?_)
  · have hr := ite_n hr c_1
    refine lv_iload_n hx hb dX7_event_15 rfl (lv_at hl 1 rfl) ?_
    refine lv_i2l (v := (Int32.toInt64 p0)) hx hb dX7_event_16 rfl ?_
    refine lv_lconst (v := (0 : Int64)) hx hb dX7_event_17 (by decide) ?_
    refine lv_ldc2 (v := (3 : Int64)) hx hb hown (hts (.constantLong RX7 160 (3)) (List.mem_of_getElem? (i := 2) rfl)) dX7_event_18 ?_
    refine ro_S ⟨hx, hb, hml, hown, hts⟩ (k_X7_isIn l dC dI cI cJ (Int32.toInt64 p0) (0 : Int64) (3 : Int64)) (va_cwS 3 hts gX7_event_X7_isIn rfl rfl rfl (by decide +kernel) ⟨Nat.le_of_ble_eq_true rfl, Nat.le_of_ble_eq_true rfl⟩) hE (hP.sub [] rfl) rfl hl.1 rfl (Nat.le_of_ble_eq_true rfl) dX7_event_21 ⟨Nat.zero_le _, Nat.zero_le _⟩ ?_
    refine lv_if_ne (tgt := 29) hx hb dX7_event_24 (by decide) (fun c_2 => ?_) (fun c_2 => ?_)
    · have hr := ite_n hr c_2
      refine lv_iload_n hx hb dX7_event_29 rfl (lv_at hl 2 rfl) ?_
      refine lv_i2l (v := (Int32.toInt64 p1)) hx hb dX7_event_30 rfl ?_
      refine lv_iload_n hx hb dX7_event_31 rfl (lv_at hl 1 rfl) ?_
      refine lv_iconst (v := (1 : Int32)) hx hb dX7_event_32 (by decide) ?_
      have hJ_3 : ∀ (y_4 : Int64) (ey_4 : y_4 = (if (¬ (p0 = (1 : Int32))) then (0 : Int64) else (1 : Int64))) (ls : Array Slot), lv_has ls 3 [(0, .ref a_o), (1, .int p0), (2, .int p1)] → W p l e rmX7_event s m args below meth c H locs 0 0 Q (F0 m 41 ls [.long y_4, .long (Int32.toInt64 p1)]) := by
        intro y_4 ey_4 ls hl
        subst ey_4
        refine lv_iload_n hx hb dX7_event_41 rfl (lv_at hl 1 rfl) ?_
        have hJ_5 : ∀ (y_6 : Int64) (ey_6 : y_6 = (if (p0 = 0) then (0 : Int64) else (if (p0 = (1 : Int32)) then (4 : Int64) else (if (p0 = (2 : Int32)) then (99 : Int64) else (5 : Int64))))) (ls : Array Slot), lv_has ls 3 [(0, .ref a_o), (1, .int p0), (2, .int p1)] → W p l e rmX7_event s m args below meth c H locs 0 0 Q (F0 m 74 ls [.long y_6, .long (if (¬ (p0 = (1 : Int32))) then (0 : Int64) else (1 : Int64)), .long (Int32.toInt64 p1)]) := by
          intro y_6 ey_6 ls hl
          subst ey_6
          refine ro_S ⟨hx, hb, hml, hown, hts⟩ (k_X7_isIn l dC dI cI cJ (Int32.toInt64 p1) (if (¬ (p0 = (1 : Int32))) then (0 : Int64) else (1 : Int64)) (if (p0 = 0) then (0 : Int64) else (if (p0 = (1 : Int32)) then (4 : Int64) else (if (p0 = (2 : Int32)) then (99 : Int64) else (5 : Int64))))) (va_cwS 3 hts gX7_event_X7_isIn rfl rfl rfl (by decide +kernel) ⟨Nat.le_of_ble_eq_true rfl, Nat.le_of_ble_eq_true rfl⟩) hE (hP.sub [] rfl) rfl hl.1 rfl (Nat.le_of_ble_eq_true rfl) dX7_event_74 ⟨Nat.zero_le _, Nat.zero_le _⟩ ?_
          refine lv_if_ne (tgt := 83) hx hb dX7_event_77 (by decide) (fun c_7 => ?_) (fun c_7 => ?_)
          · have hr := ite_n hr c_7
            refine lv_aload_n hx hb dX7_event_83 rfl (lv_at hl 0 rfl) ?_
            refine va_get (D := (dC, dI)) (ci := 6) (v := .ref a_o_g) (C := RX7) (T := TX7) (N := 15) hx hb hts iX7 hown hK hP 0 rfl rfl 0 (by decide) (hts (.fieldLink RX7 11 "PascalRowsModel" "g" "[I") (List.mem_of_getElem? (i := 1) rfl)) (fun _ h9 => h9) rfl dX7_event_84 ?_
            refine lv_bipush (v := (30 : Int32)) hx hb dX7_event_87 (by decide) ?_
            obtain ⟨g_8, eg_8, hg_8, hr⟩ := rd_e hr
            refine va_iald hx hb hK hP 1 0 rfl rfl hg_8 dX7_event_89 ?_
            refine tp_ eg_8 ?_
            refine lv_bipush (v := (8 : Int32)) hx hb dX7_event_90 (by decide) ?_
            refine lv_icmp_ne (tgt := 98) hx hb dX7_event_92 (by decide) (fun c_9 => ?_) (fun c_9 => ?_)
            · have hr := ite_n hr c_9
              refine lv_aload_n hx hb dX7_event_98 rfl (lv_at hl 0 rfl) ?_
              refine va_get (D := (dC, dI)) (ci := 6) (v := .ref a_o_g) (C := RX7) (T := TX7) (N := 15) hx hb hts iX7 hown hK hP 0 rfl rfl 0 (by decide) (hts (.fieldLink RX7 11 "PascalRowsModel" "g" "[I") (List.mem_of_getElem? (i := 1) rfl)) (fun _ h9 => h9) rfl dX7_event_99 ?_
              refine lv_bipush (v := (31 : Int32)) hx hb dX7_event_102 (by decide) ?_
              refine lv_iconst (v := (2 : Int32)) hx hb dX7_event_104 (by decide) ?_
              refine lv_aload_n hx hb dX7_event_105 rfl (lv_at hl 0 rfl) ?_
              refine va_get (D := (dC, dI)) (ci := 6) (v := .ref a_o_g) (C := RX7) (T := TX7) (N := 15) hx hb hts iX7 hown hK hP 0 rfl rfl 0 (by decide) (hts (.fieldLink RX7 11 "PascalRowsModel" "g" "[I") (List.mem_of_getElem? (i := 1) rfl)) (fun _ h9 => h9) rfl dX7_event_106 ?_
              refine lv_bipush (v := (30 : Int32)) hx hb dX7_event_109 (by decide) ?_
              obtain ⟨g_10, eg_10, hg_10, hr⟩ := rd_e hr
              refine va_iald hx hb hK hP 1 0 rfl rfl hg_10 dX7_event_111 ?_
              refine tp_ eg_10 ?_
              refine lv_imul hx hb dX7_event_112 ?_
              refine lv_iadd hx hb dX7_event_113 ?_
              refine lv_iload_n hx hb dX7_event_114 rfl (lv_at hl 1 rfl) ?_
              obtain ⟨w_11, ew_11, hw_11, hr⟩ := wr_e hr
              refine va_iast hx hb hK hP (hD.fst rfl) hS 1 0 rfl rfl hw_11 dX7_event_115 (fun H locs hP _ hS => ?_)
              rw [← ew_11] at hP
              have hP : va_P (dC, dI) vwCl [(a_o, .inr (6, [.ref a_o_g, .ref a_o_kept, .ref a_o_was, .int o_isKept, .ref a_o_triangle, .int o_takenBy, .ref a_o_text, .int o_fed, .int o_place, .int o_letter, .int o_first, .int o_second, .ref a_o_sort, .ref a_o_size, .ref a_o_items])), (a_o_g, .inl (cI, 64, .inl w_11))] H := hP
              refine lv_aload_n hx hb dX7_event_116 rfl (lv_at hl 0 rfl) ?_
              refine va_get (D := (dC, dI)) (ci := 6) (v := .ref a_o_g) (C := RX7) (T := TX7) (N := 15) hx hb hts iX7 hown hK hP 0 rfl rfl 0 (by decide) (hts (.fieldLink RX7 11 "PascalRowsModel" "g" "[I") (List.mem_of_getElem? (i := 1) rfl)) (fun _ h9 => h9) rfl dX7_event_117 ?_
              refine lv_bipush (v := (32 : Int32)) hx hb dX7_event_120 (by decide) ?_
              refine lv_iconst (v := (2 : Int32)) hx hb dX7_event_122 (by decide) ?_
              refine lv_aload_n hx hb dX7_event_123 rfl (lv_at hl 0 rfl) ?_
              refine va_get (D := (dC, dI)) (ci := 6) (v := .ref a_o_g) (C := RX7) (T := TX7) (N := 15) hx hb hts iX7 hown hK hP 0 rfl rfl 0 (by decide) (hts (.fieldLink RX7 11 "PascalRowsModel" "g" "[I") (List.mem_of_getElem? (i := 1) rfl)) (fun _ h9 => h9) rfl dX7_event_124 ?_
              refine lv_bipush (v := (30 : Int32)) hx hb dX7_event_127 (by decide) ?_
              obtain ⟨g_12, eg_12, hg_12, hr⟩ := rd_e hr
              refine va_iald hx hb hK hP 1 0 rfl rfl hg_12 dX7_event_129 ?_
              refine tp_ eg_12 ?_
              refine lv_imul hx hb dX7_event_130 ?_
              refine lv_iadd hx hb dX7_event_131 ?_
              refine lv_iload_n hx hb dX7_event_132 rfl (lv_at hl 2 rfl) ?_
              obtain ⟨w_13, ew_13, hw_13, hr⟩ := wr_e hr
              refine va_iast hx hb hK hP (hD.fst rfl) hS 1 0 rfl rfl hw_13 dX7_event_133 (fun H locs hP _ hS => ?_)
              rw [← ew_13] at hP
              have hP : va_P (dC, dI) vwCl [(a_o, .inr (6, [.ref a_o_g, .ref a_o_kept, .ref a_o_was, .int o_isKept, .ref a_o_triangle, .int o_takenBy, .ref a_o_text, .int o_fed, .int o_place, .int o_letter, .int o_first, .int o_second, .ref a_o_sort, .ref a_o_size, .ref a_o_items])), (a_o_g, .inl (cI, 64, .inl w_13))] H := hP
              refine lv_aload_n hx hb dX7_event_134 rfl (lv_at hl 0 rfl) ?_
              refine va_get (D := (dC, dI)) (ci := 6) (v := .ref a_o_g) (C := RX7) (T := TX7) (N := 15) hx hb hts iX7 hown hK hP 0 rfl rfl 0 (by decide) (hts (.fieldLink RX7 11 "PascalRowsModel" "g" "[I") (List.mem_of_getElem? (i := 1) rfl)) (fun _ h9 => h9) rfl dX7_event_135 ?_
              refine lv_bipush (v := (30 : Int32)) hx hb dX7_event_138 (by decide) ?_
              refine lv_dup2_11 hx hb dX7_event_140 rfl rfl ?_
              obtain ⟨g_14, eg_14, hg_14, hr⟩ := rd_e hr
              refine va_iald hx hb hK hP 1 0 rfl rfl hg_14 dX7_event_141 ?_
              refine tp_ eg_14 ?_
              refine lv_iconst (v := (1 : Int32)) hx hb dX7_event_142 (by decide) ?_
              refine lv_iadd hx hb dX7_event_143 ?_
              obtain ⟨w_15, ew_15, hw_15, hr⟩ := wr_e hr
              refine va_iast hx hb hK hP (hD.fst rfl) hS 1 0 rfl rfl hw_15 dX7_event_144 (fun H locs hP _ hS => ?_)
              rw [← ew_15] at hP
              have hP : va_P (dC, dI) vwCl [(a_o, .inr (6, [.ref a_o_g, .ref a_o_kept, .ref a_o_was, .int o_isKept, .ref a_o_triangle, .int o_takenBy, .ref a_o_text, .int o_fed, .int o_place, .int o_letter, .int o_first, .int o_second, .ref a_o_sort, .ref a_o_size, .ref a_o_items])), (a_o_g, .inl (cI, 64, .inl w_15))] H := hP
              refine lv_aload_n hx hb dX7_event_145 rfl (lv_at hl 0 rfl) ?_
              refine va_get (D := (dC, dI)) (ci := 6) (v := .ref a_o_g) (C := RX7) (T := TX7) (N := 15) hx hb hts iX7 hown hK hP 0 rfl rfl 0 (by decide) (hts (.fieldLink RX7 11 "PascalRowsModel" "g" "[I") (List.mem_of_getElem? (i := 1) rfl)) (fun _ h9 => h9) rfl dX7_event_146 ?_
              refine lv_bipush (v := (30 : Int32)) hx hb dX7_event_149 (by decide) ?_
              obtain ⟨g_16, eg_16, hg_16, hr⟩ := rd_e hr
              refine va_iald hx hb hK hP 1 0 rfl rfl hg_16 dX7_event_151 ?_
              refine tp_ eg_16 ?_
              obtain rfl := Option.some.inj hr
              exact hret H locs _ hP hS (fun Qc free hq hf => W.iret hx hb hrt hq hf dX7_event_152 hlocks)
            · have hr := ite_p hr c_9
              refine lv_bipush (v := (-4 : Int32)) hx hb dX7_event_95 (by decide) ?_
              obtain rfl := Option.some.inj hr
              exact hret H locs _ hP hS (fun Qc free hq hf => W.iret hx hb hrt hq hf dX7_event_97 hlocks)
          · have hr := ite_p hr c_7
            refine lv_bipush (v := (-2 : Int32)) hx hb dX7_event_80 (by decide) ?_
            obtain rfl := Option.some.inj hr
            exact hret H locs _ hP hS (fun Qc free hq hf => W.iret hx hb hrt hq hf dX7_event_82 hlocks)
        refine lv_if_ne (tgt := 49) hx hb dX7_event_42 (by decide) (fun c_17 => ?_) (fun c_17 => ?_)
        · refine lv_iload_n hx hb dX7_event_49 rfl (lv_at hl 1 rfl) ?_
          refine lv_iconst (v := (1 : Int32)) hx hb dX7_event_50 (by decide) ?_
          refine lv_icmp_ne (tgt := 60) hx hb dX7_event_51 (by decide) (fun c_18 => ?_) (fun c_18 => ?_)
          · refine lv_iload_n hx hb dX7_event_60 rfl (lv_at hl 1 rfl) ?_
            refine lv_iconst (v := (2 : Int32)) hx hb dX7_event_61 (by decide) ?_
            refine lv_icmp_ne (tgt := 71) hx hb dX7_event_62 (by decide) (fun c_19 => ?_) (fun c_19 => ?_)
            · refine lv_ldc2 (v := (5 : Int64)) hx hb hown (hts (.constantLong RX7 193 (5)) (List.mem_of_getElem? (i := 5) rfl)) dX7_event_71 ?_
              exact hJ_5 _ (((if_neg c_17).trans (if_neg c_18)).trans (if_neg c_19)).symm ls (lv_sub hl [0, 1, 2] rfl)
            · refine lv_ldc2 (v := (99 : Int64)) hx hb hown (hts (.constantLong RX7 191 (99)) (List.mem_of_getElem? (i := 4) rfl)) dX7_event_65 ?_
              refine lv_goto (tgt := 74) hx hb dX7_event_68 (by decide) ?_
              exact hJ_5 _ (((if_neg c_17).trans (if_neg c_18)).trans (if_pos c_19)).symm ls (lv_sub hl [0, 1, 2] rfl)
          · refine lv_ldc2 (v := (4 : Int64)) hx hb hown (hts (.constantLong RX7 81 (4)) (List.mem_of_getElem? (i := 3) rfl)) dX7_event_54 ?_
            refine lv_goto (tgt := 74) hx hb dX7_event_57 (by decide) ?_
            exact hJ_5 _ ((if_neg c_17).trans (if_pos c_18)).symm ls (lv_sub hl [0, 1, 2] rfl)
        · refine lv_lconst (v := (0 : Int64)) hx hb dX7_event_45 (by decide) ?_
          refine lv_goto (tgt := 74) hx hb dX7_event_46 (by decide) ?_
          exact hJ_5 _ (if_pos c_17).symm ls (lv_sub hl [0, 1, 2] rfl)
      refine lv_icmp_ne (tgt := 40) hx hb dX7_event_33 (by decide) (fun c_20 => ?_) (fun c_20 => ?_)
      · refine lv_lconst (v := (0 : Int64)) hx hb dX7_event_40 (by decide) ?_
        exact hJ_3 _ (if_pos c_20).symm ls (lv_sub hl [0, 1, 2] rfl)
      · refine lv_lconst (v := (1 : Int64)) hx hb dX7_event_36 (by decide) ?_
        refine lv_goto (tgt := 41) hx hb dX7_event_37 (by decide) ?_
        exact hJ_3 _ (if_neg (fun h => h c_20)).symm ls (lv_sub hl [0, 1, 2] rfl)
    · have hr := ite_p hr c_2
      refine lv_iconst (v := (-1 : Int32)) hx hb dX7_event_27 (by decide) ?_
      obtain rfl := Option.some.inj hr
      exact hret H locs _ hP hS (fun Qc free hq hf => W.iret hx hb hrt hq hf dX7_event_28 hlocks)
  · have hr := ite_p hr c_1
    refine lv_aload_n hx hb dX7_event_5 rfl (lv_at hl 0 rfl) ?_
    refine va_get (D := (dC, dI)) (ci := 6) (v := .ref a_o_g) (C := RX7) (T := TX7) (N := 15) hx hb hts iX7 hown hK hP 0 rfl rfl 0 (by decide) (hts (.fieldLink RX7 11 "PascalRowsModel" "g" "[I") (List.mem_of_getElem? (i := 1) rfl)) (fun _ h9 => h9) rfl dX7_event_6 ?_
    refine lv_bipush (v := (30 : Int32)) hx hb dX7_event_9 (by decide) ?_
    refine lv_iconst (v := (0 : Int32)) hx hb dX7_event_11 (by decide) ?_
    obtain ⟨w_21, ew_21, hw_21, hr⟩ := wr_e hr
    refine va_iast hx hb hK hP (hD.fst rfl) hS 1 0 rfl rfl hw_21 dX7_event_12 (fun H locs hP _ hS => ?_)
    rw [← ew_21] at hP
    have hP : va_P (dC, dI) vwCl [(a_o, .inr (6, [.ref a_o_g, .ref a_o_kept, .ref a_o_was, .int o_isKept, .ref a_o_triangle, .int o_takenBy, .ref a_o_text, .int o_fed, .int o_place, .int o_letter, .int o_first, .int o_second, .ref a_o_sort, .ref a_o_size, .ref a_o_items])), (a_o_g, .inl (cI, 64, .inl w_21))] H := hP
    refine lv_iconst (v := (0 : Int32)) hx hb dX7_event_13 (by decide) ?_
    obtain rfl := Option.some.inj hr
    exact hret H locs _ hP hS (fun Qc free hq hf => W.iret hx hb hrt hq hf dX7_event_14 hlocks)
/-! X7_happens -/
def rmX7_happens : Room := { frames := 1, cells := 0, slots := 0, locals := 21 }
set_option maxHeartbeats 4000000 in
set_option maxRecDepth 100000 in
theorem k_X7_happens (l : Launch) (dC : Nat → ClassId) (dI : Nat → Nat → Nat) (cI cJ : ClassId) (a_o : Nat) (a_o_g : Nat) (a_o_kept : Nat) (a_o_was : Nat) (a_o_triangle : Nat) (a_o_text : Nat) (a_o_sort : Nat) (a_o_size : Nat) (a_o_items : Nat) (p0 : Int32) (p1 : Int32) (o_isKept : Int32) (o_takenBy : Int32) (o_fed : Int32) (o_place : Int32) (o_letter : Int32) (o_first : Int32) (o_second : Int32) (o_g : Nat → Int32) (sz : Nat) (r : (Nat → Int32)) (hr : f_X7_happens p0 p1 o_g = some r) : Met l yX7_happens wsX7_happens rmX7_happens (va_Pc [.ref a_o, .int p0, .int p1] (pM (dC, dI) cI cJ [(a_o, .inr (6, [.ref a_o_g, .ref a_o_kept, .ref a_o_was, .int o_isKept, .ref a_o_triangle, .int o_takenBy, .ref a_o_text, .int o_fed, .int o_place, .int o_letter, .int o_first, .int o_second, .ref a_o_sort, .ref a_o_size, .ref a_o_items])), (a_o_g, .inl (cI, 64, .inl o_g))] sz)) (qM none (dC, dI) [(a_o, .inr (6, [.ref a_o_g, .ref a_o_kept, .ref a_o_was, .int o_isKept, .ref a_o_triangle, .int o_takenBy, .ref a_o_text, .int o_fed, .int o_place, .int o_letter, .int o_first, .int o_second, .ref a_o_sort, .ref a_o_size, .ref a_o_items])), (a_o_g, .inl (cI, 64, .inl r))] (va_A [(a_o, .inr (6, [.ref a_o_g, .ref a_o_kept, .ref a_o_was, .int o_isKept, .ref a_o_triangle, .int o_takenBy, .ref a_o_text, .int o_fed, .int o_place, .int o_letter, .int o_first, .int o_second, .ref a_o_sort, .ref a_o_size, .ref a_o_items])), (a_o_g, .inl (cI, 64, .inl o_g))] sz)) 0 0 (va_A [(a_o, .inr (6, [.ref a_o_g, .ref a_o_kept, .ref a_o_was, .int o_isKept, .ref a_o_triangle, .int o_takenBy, .ref a_o_text, .int o_fed, .int o_place, .int o_letter, .int o_first, .int o_second, .ref a_o_sort, .ref a_o_size, .ref a_o_items])), (a_o_g, .inl (cI, 64, .inl o_g))] sz) := by
  refine mu_of (cc := cX7_happens) (maxL := 4) (by decide) rfl (Nat.le_of_ble_eq_true rfl) ?_
  intro p e s m args below meth c Q ls A hx hb hml hown hts hE hP hD hA hrt hlocks hret hl
  have hK := hE.1
  have hS : va_S A s.heap s.heap [] := va_S.rf
  have hl : lv_has ls 4 [(0, .ref a_o), (1, .int p0), (2, .int p1)] := hl
  unfold f_X7_happens at hr
  obtain ⟨H, hHe⟩ : ∃ H, H = s.heap := ⟨_, rfl⟩
  obtain ⟨locs, hLe⟩ : ∃ locs : List Loc, locs = [] := ⟨_, rfl⟩
  suffices hgo : va_P (dC, dI) vwCl [(a_o, .inr (6, [.ref a_o_g, .ref a_o_kept, .ref a_o_was, .int o_isKept, .ref a_o_triangle, .int o_takenBy, .ref a_o_text, .int o_fed, .int o_place, .int o_letter, .int o_first, .int o_second, .ref a_o_sort, .ref a_o_size, .ref a_o_items])), (a_o_g, .inl (cI, 64, .inl o_g))] H → va_S A s.heap H locs → W p l e rmX7_happens s m args below meth c H locs 0 0 Q (F0 m 0 ls []) by
    subst hHe; subst hLe; exact hgo hP hS
  clear hP hS hHe hLe
  intro hP hS
  have iX7 : ∀ w ∈ wsX70, w ∈ wsX7_happens := memr_ (big := wsX7_happens) wsX70 [6, 7, 8, 9, 10, 11, 12, 13, 14, 15, 16, 17, 18, 19, 20] (by decide +kernel)
  refine lv_iload_n hx hb dX7_happens_0 rfl (lv_at hl 1 rfl) ?_
  refine lv_if_ne (tgt := 47) hx hb dX7_happens_1 (by decide) (fun c_1 => ?_) (fun c_1 => ?_)
  · have hr := ite_n hr c_1
    refine lv_iload_n hx hb dX7_happens_47 rfl (lv_at hl 1 rfl) ?_
    refine lv_iconst (v := (1 : Int32)) hx hb dX7_happens_48 (by decide) ?_
    refine lv_icmp_ne (tgt := 59) hx hb dX7_happens_49 (by decide) (fun c_2 => ?_) (fun c_2 => ?_)
    · have hr := ite_n hr c_2
      refine lv_iload_n hx hb dX7_happens_59 rfl (lv_at hl 1 rfl) ?_
      refine lv_iconst (v := (2 : Int32)) hx hb dX7_happens_60 (by decide) ?_
      refine lv_icmp_ne (tgt := 83) hx hb dX7_happens_61 (by decide) (fun c_3 => ?_) (fun c_3 => ?_)
      · have hr := ite_n hr c_3
        refine lv_iload_n hx hb dX7_happens_83 rfl (lv_at hl 1 rfl) ?_
        refine lv_iconst (v := (3 : Int32)) hx hb dX7_happens_84 (by decide) ?_
        refine lv_icmp_ne (tgt := 147) hx hb dX7_happens_85 (by decide) (fun c_4 => ?_) (fun c_4 => ?_)
        · have hr := ite_n hr c_4
          obtain rfl := Option.some.inj hr
          exact hret H locs _ hP hS (fun Qc free hq hf => W.vret hx hb hrt hq hf dX7_happens_147 hlocks)
        · have hr := ite_p hr c_4
          refine lv_iload_n hx hb dX7_happens_88 rfl (lv_at hl 2 rfl) ?_
          refine lv_aload_n hx hb dX7_happens_89 rfl (lv_at hl 0 rfl) ?_
          refine va_get (D := (dC, dI)) (ci := 6) (v := .ref a_o_g) (C := RX7) (T := TX7) (N := 15) hx hb hts iX7 hown hK hP 0 rfl rfl 0 (by decide) (hts (.fieldLink RX7 11 "PascalRowsModel" "g" "[I") (List.mem_of_getElem? (i := 1) rfl)) (fun _ h9 => h9) rfl dX7_happens_90 ?_
          refine lv_iconst (v := (4 : Int32)) hx hb dX7_happens_93 (by decide) ?_
          obtain ⟨g_5, eg_5, hg_5, hr⟩ := rd_e hr
          refine va_iald hx hb hK hP 1 0 rfl rfl hg_5 dX7_happens_94 ?_
          refine tp_ eg_5 ?_
          refine lv_icmp_ge (tgt := 147) hx hb dX7_happens_95 (by decide) (fun c_6 => ?_) (fun c_6 => ?_)
          · have hr := ite_p hr c_6
            obtain rfl := Option.some.inj hr
            exact hret H locs _ hP hS (fun Qc free hq hf => W.vret hx hb hrt hq hf dX7_happens_147 hlocks)
          · have hr := ite_n hr c_6
            refine lv_aload_n hx hb dX7_happens_98 rfl (lv_at hl 0 rfl) ?_
            refine va_get (D := (dC, dI)) (ci := 6) (v := .ref a_o_g) (C := RX7) (T := TX7) (N := 15) hx hb hts iX7 hown hK hP 0 rfl rfl 0 (by decide) (hts (.fieldLink RX7 11 "PascalRowsModel" "g" "[I") (List.mem_of_getElem? (i := 1) rfl)) (fun _ h9 => h9) rfl dX7_happens_99 ?_
            refine lv_iconst (v := (4 : Int32)) hx hb dX7_happens_102 (by decide) ?_
            refine lv_dup2_11 hx hb dX7_happens_103 rfl rfl ?_
            obtain ⟨g_7, eg_7, hg_7, hr⟩ := rd_e hr
            refine va_iald hx hb hK hP 1 0 rfl rfl hg_7 dX7_happens_104 ?_
            refine tp_ eg_7 ?_
            refine lv_iconst (v := (1 : Int32)) hx hb dX7_happens_105 (by decide) ?_
            refine lv_isub hx hb dX7_happens_106 ?_
            obtain ⟨w_8, ew_8, hw_8, hr⟩ := wr_e hr
            refine va_iast hx hb hK hP (hD.fst rfl) hS 1 0 rfl rfl hw_8 dX7_happens_107 (fun H locs hP _ hS => ?_)
            rw [← ew_8] at hP
            have hP : va_P (dC, dI) vwCl [(a_o, .inr (6, [.ref a_o_g, .ref a_o_kept, .ref a_o_was, .int o_isKept, .ref a_o_triangle, .int o_takenBy, .ref a_o_text, .int o_fed, .int o_place, .int o_letter, .int o_first, .int o_second, .ref a_o_sort, .ref a_o_size, .ref a_o_items])), (a_o_g, .inl (cI, 64, .inl w_8))] H := hP
            refine lv_iconst (v := (2 : Int32)) hx hb dX7_happens_108 (by decide) ?_
            refine lv_iload_n hx hb dX7_happens_109 rfl (lv_at hl 2 rfl) ?_
            refine lv_imul hx hb dX7_happens_110 ?_
            refine lv_istore_n (lv' := [(3, .int ((2 : Int32) * p1)), (0, .ref a_o), (1, .int p0), (2, .int p1)]) hx hb dX7_happens_111 rfl hl (by decide) rfl (fun ls hl => ?_)
            have hL112 : ∀  (k_112 : (Nat → Int32) → Option ((Nat → Int32))) (hk : ∀ (xc_o_g_112 : Nat → Int32) (ls : Array Slot), lv_has ls 4 [] → ∀ (H : Heap) (locs : List Loc), va_P (dC, dI) vwCl [(a_o, .inr (6, [.ref a_o_g, .ref a_o_kept, .ref a_o_was, .int o_isKept, .ref a_o_triangle, .int o_takenBy, .ref a_o_text, .int o_fed, .int o_place, .int o_letter, .int o_first, .int o_second, .ref a_o_sort, .ref a_o_size, .ref a_o_items])), (a_o_g, .inl (cI, 64, .inl xc_o_g_112))] H → va_S A s.heap H locs →  k_112 xc_o_g_112 = some r → W p l e rmX7_happens s m args below meth c H locs 0 0 Q (F0 m 147 ls [])) (fuel : Nat) (v3_112 : Int32) (o_g_112 : Nat → Int32) (ls : Array Slot), lv_has ls 4 [(0, .ref a_o), (3, .int v3_112)] → ∀ (H : Heap) (locs : List Loc), va_P (dC, dI) vwCl [(a_o, .inr (6, [.ref a_o_g, .ref a_o_kept, .ref a_o_was, .int o_isKept, .ref a_o_triangle, .int o_takenBy, .ref a_o_text, .int o_fed, .int o_place, .int o_letter, .int o_first, .int o_second, .ref a_o_sort, .ref a_o_size, .ref a_o_items])), (a_o_g, .inl (cI, 64, .inl o_g_112))] H → va_S A s.heap H locs → f_X7_happens_L112 k_112  fuel v3_112 o_g_112 = some r → W p l e rmX7_happens s m args below meth c H locs 0 0 Q (F0 m 112 ls []) := by
              intro k_112 hk fuel
              induction fuel with
              | zero =>
                intro v3_112 o_g_112 ls hl H locs hP hS hr
                rw [f_X7_happens_L112_z] at hr
                cases hr
              | succ fuel ih =>
                intro v3_112 o_g_112 ls hl H locs hP hS hr
                rw [f_X7_happens_L112_s] at hr
                refine lv_iload_n hx hb dX7_happens_112 rfl (lv_at hl 1 rfl) ?_
                refine lv_iconst (v := (2 : Int32)) hx hb dX7_happens_113 (by decide) ?_
                refine lv_aload_n hx hb dX7_happens_114 rfl (lv_at hl 0 rfl) ?_
                refine va_get (D := (dC, dI)) (ci := 6) (v := .ref a_o_g) (C := RX7) (T := TX7) (N := 15) hx hb hts iX7 hown hK hP 0 rfl rfl 0 (by decide) (hts (.fieldLink RX7 11 "PascalRowsModel" "g" "[I") (List.mem_of_getElem? (i := 1) rfl)) (fun _ h9 => h9) rfl dX7_happens_115 ?_
                refine lv_iconst (v := (4 : Int32)) hx hb dX7_happens_118 (by decide) ?_
                obtain ⟨g_9, eg_9, hg_9, hr⟩ := rd_e hr
                refine va_iald hx hb hK hP 1 0 rfl rfl hg_9 dX7_happens_119 ?_
                refine tp_ eg_9 ?_
                refine lv_imul hx hb dX7_happens_120 ?_
                refine lv_icmp_ge (tgt := 147) hx hb dX7_happens_121 (by decide) (fun c_10 => ?_) (fun c_10 => ?_)
                · have hr := ite_p hr c_10
                  exact hk o_g_112 ls (lv_sub hl [] rfl) H locs hP hS hr
                · have hr := ite_n hr c_10
                  refine lv_aload_n hx hb dX7_happens_124 rfl (lv_at hl 0 rfl) ?_
                  refine va_get (D := (dC, dI)) (ci := 6) (v := .ref a_o_g) (C := RX7) (T := TX7) (N := 15) hx hb hts iX7 hown hK hP 0 rfl rfl 0 (by decide) (hts (.fieldLink RX7 11 "PascalRowsModel" "g" "[I") (List.mem_of_getElem? (i := 1) rfl)) (fun _ h9 => h9) rfl dX7_happens_125 ?_
                  refine lv_iconst (v := (5 : Int32)) hx hb dX7_happens_128 (by decide) ?_
                  refine lv_iload_n hx hb dX7_happens_129 rfl (lv_at hl 1 rfl) ?_
                  refine lv_iadd hx hb dX7_happens_130 ?_
                  refine lv_aload_n hx hb dX7_happens_131 rfl (lv_at hl 0 rfl) ?_
                  refine va_get (D := (dC, dI)) (ci := 6) (v := .ref a_o_g) (C := RX7) (T := TX7) (N := 15) hx hb hts iX7 hown hK hP 0 rfl rfl 0 (by decide) (hts (.fieldLink RX7 11 "PascalRowsModel" "g" "[I") (List.mem_of_getElem? (i := 1) rfl)) (fun _ h9 => h9) rfl dX7_happens_132 ?_
                  refine lv_bipush (v := (7 : Int32)) hx hb dX7_happens_135 (by decide) ?_
                  refine lv_iload_n hx hb dX7_happens_137 rfl (lv_at hl 1 rfl) ?_
                  refine lv_iadd hx hb dX7_happens_138 ?_
                  obtain ⟨g_11, eg_11, hg_11, hr⟩ := rd_e hr
                  refine va_iald hx hb hK hP 1 0 rfl rfl hg_11 dX7_happens_139 ?_
                  refine tp_ eg_11 ?_
                  obtain ⟨w_12, ew_12, hw_12, hr⟩ := wr_e hr
                  refine va_iast hx hb hK hP (hD.fst rfl) hS 1 0 rfl rfl hw_12 dX7_happens_140 (fun H locs hP _ hS => ?_)
                  rw [← ew_12] at hP
                  have hP : va_P (dC, dI) vwCl [(a_o, .inr (6, [.ref a_o_g, .ref a_o_kept, .ref a_o_was, .int o_isKept, .ref a_o_triangle, .int o_takenBy, .ref a_o_text, .int o_fed, .int o_place, .int o_letter, .int o_first, .int o_second, .ref a_o_sort, .ref a_o_size, .ref a_o_items])), (a_o_g, .inl (cI, 64, .inl w_12))] H := hP
                  refine lv_iinc (v := (v3_112 + (1 : Int32))) (lv' := [(3, .int (v3_112 + (1 : Int32))), (0, .ref a_o)]) hx hb dX7_happens_141 hl (k := 1) rfl (congrArg (fun z => v3_112 + z) (by decide)) (by decide) rfl (fun ls hl => ?_)
                  refine lv_goto (tgt := 112) hx hb dX7_happens_144 (by decide) ?_
                  exact ih (v3_112 + (1 : Int32)) w_12 ls (lv_sub hl [1, 0] rfl) H locs hP hS hr
            refine hL112  _ (fun xc_o_g_112 ls hl H locs hP hS hr => ?_) 5000 ((2 : Int32) * p1) w_8 ls (lv_sub hl [1, 0] rfl) H locs hP hS hr
            obtain rfl := Option.some.inj hr
            exact hret H locs _ hP hS (fun Qc free hq hf => W.vret hx hb hrt hq hf dX7_happens_147 hlocks)
      · have hr := ite_p hr c_3
        refine lv_aload_n hx hb dX7_happens_64 rfl (lv_at hl 0 rfl) ?_
        refine va_get (D := (dC, dI)) (ci := 6) (v := .ref a_o_g) (C := RX7) (T := TX7) (N := 15) hx hb hts iX7 hown hK hP 0 rfl rfl 0 (by decide) (hts (.fieldLink RX7 11 "PascalRowsModel" "g" "[I") (List.mem_of_getElem? (i := 1) rfl)) (fun _ h9 => h9) rfl dX7_happens_65 ?_
        refine lv_iconst (v := (2 : Int32)) hx hb dX7_happens_68 (by decide) ?_
        refine lv_bipush (v := (127 : Int32)) hx hb dX7_happens_69 (by decide) ?_
        refine lv_aload_n hx hb dX7_happens_71 rfl (lv_at hl 0 rfl) ?_
        refine va_get (D := (dC, dI)) (ci := 6) (v := .ref a_o_g) (C := RX7) (T := TX7) (N := 15) hx hb hts iX7 hown hK hP 0 rfl rfl 0 (by decide) (hts (.fieldLink RX7 11 "PascalRowsModel" "g" "[I") (List.mem_of_getElem? (i := 1) rfl)) (fun _ h9 => h9) rfl dX7_happens_72 ?_
        refine lv_iconst (v := (2 : Int32)) hx hb dX7_happens_75 (by decide) ?_
        obtain ⟨g_13, eg_13, hg_13, hr⟩ := rd_e hr
        refine va_iald hx hb hK hP 1 0 rfl rfl hg_13 dX7_happens_76 ?_
        refine tp_ eg_13 ?_
        refine lv_iload_n hx hb dX7_happens_77 rfl (lv_at hl 2 rfl) ?_
        refine lv_iadd hx hb dX7_happens_78 ?_
        refine va_mmin hx hb (hml.trans hl.1.symm) hown (hts (.methodLink RX7 195 Lib.Math.min.name) (List.mem_of_getElem? (i := 2) rfl)) (hts (.static Lib.Math.min.name) (List.mem_of_getElem? (i := 3) rfl)) (hts (.initialized "java/lang/Math") (List.mem_of_getElem? (i := 4) rfl)) (hts (.code Lib.Math.min.name Lib.Math.min.code 2 (some .int)) (List.mem_of_getElem? (i := 5) rfl)) (Nat.le_of_ble_eq_true rfl) (Nat.le_of_ble_eq_true rfl) (Nat.zero_le _) (Nat.zero_le _) dX7_happens_79 ?_
        obtain ⟨w_14, ew_14, hw_14, hr⟩ := wr_e hr
        refine va_iast hx hb hK hP (hD.fst rfl) hS 1 0 rfl rfl hw_14 dX7_happens_82 (fun H locs hP _ hS => ?_)
        rw [← ew_14] at hP
        have hP : va_P (dC, dI) vwCl [(a_o, .inr (6, [.ref a_o_g, .ref a_o_kept, .ref a_o_was, .int o_isKept, .ref a_o_triangle, .int o_takenBy, .ref a_o_text, .int o_fed, .int o_place, .int o_letter, .int o_first, .int o_second, .ref a_o_sort, .ref a_o_size, .ref a_o_items])), (a_o_g, .inl (cI, 64, .inl w_14))] H := hP
        refine lv_iload_n hx hb dX7_happens_83 rfl (lv_at hl 1 rfl) ?_
        refine lv_iconst (v := (3 : Int32)) hx hb dX7_happens_84 (by decide) ?_
        refine lv_icmp_ne (tgt := 147) hx hb dX7_happens_85 (by decide) (fun c_15 => ?_) (fun c_15 => ?_)
        · have hr := ite_n hr c_15
          obtain rfl := Option.some.inj hr
          exact hret H locs _ hP hS (fun Qc free hq hf => W.vret hx hb hrt hq hf dX7_happens_147 hlocks)
        · have hr := ite_p hr c_15
          refine lv_iload_n hx hb dX7_happens_88 rfl (lv_at hl 2 rfl) ?_
          refine lv_aload_n hx hb dX7_happens_89 rfl (lv_at hl 0 rfl) ?_
          refine va_get (D := (dC, dI)) (ci := 6) (v := .ref a_o_g) (C := RX7) (T := TX7) (N := 15) hx hb hts iX7 hown hK hP 0 rfl rfl 0 (by decide) (hts (.fieldLink RX7 11 "PascalRowsModel" "g" "[I") (List.mem_of_getElem? (i := 1) rfl)) (fun _ h9 => h9) rfl dX7_happens_90 ?_
          refine lv_iconst (v := (4 : Int32)) hx hb dX7_happens_93 (by decide) ?_
          obtain ⟨g_16, eg_16, hg_16, hr⟩ := rd_e hr
          refine va_iald hx hb hK hP 1 0 rfl rfl hg_16 dX7_happens_94 ?_
          refine tp_ eg_16 ?_
          refine lv_icmp_ge (tgt := 147) hx hb dX7_happens_95 (by decide) (fun c_17 => ?_) (fun c_17 => ?_)
          · have hr := ite_p hr c_17
            obtain rfl := Option.some.inj hr
            exact hret H locs _ hP hS (fun Qc free hq hf => W.vret hx hb hrt hq hf dX7_happens_147 hlocks)
          · have hr := ite_n hr c_17
            refine lv_aload_n hx hb dX7_happens_98 rfl (lv_at hl 0 rfl) ?_
            refine va_get (D := (dC, dI)) (ci := 6) (v := .ref a_o_g) (C := RX7) (T := TX7) (N := 15) hx hb hts iX7 hown hK hP 0 rfl rfl 0 (by decide) (hts (.fieldLink RX7 11 "PascalRowsModel" "g" "[I") (List.mem_of_getElem? (i := 1) rfl)) (fun _ h9 => h9) rfl dX7_happens_99 ?_
            refine lv_iconst (v := (4 : Int32)) hx hb dX7_happens_102 (by decide) ?_
            refine lv_dup2_11 hx hb dX7_happens_103 rfl rfl ?_
            obtain ⟨g_18, eg_18, hg_18, hr⟩ := rd_e hr
            refine va_iald hx hb hK hP 1 0 rfl rfl hg_18 dX7_happens_104 ?_
            refine tp_ eg_18 ?_
            refine lv_iconst (v := (1 : Int32)) hx hb dX7_happens_105 (by decide) ?_
            refine lv_isub hx hb dX7_happens_106 ?_
            obtain ⟨w_19, ew_19, hw_19, hr⟩ := wr_e hr
            refine va_iast hx hb hK hP (hD.fst rfl) hS 1 0 rfl rfl hw_19 dX7_happens_107 (fun H locs hP _ hS => ?_)
            rw [← ew_19] at hP
            have hP : va_P (dC, dI) vwCl [(a_o, .inr (6, [.ref a_o_g, .ref a_o_kept, .ref a_o_was, .int o_isKept, .ref a_o_triangle, .int o_takenBy, .ref a_o_text, .int o_fed, .int o_place, .int o_letter, .int o_first, .int o_second, .ref a_o_sort, .ref a_o_size, .ref a_o_items])), (a_o_g, .inl (cI, 64, .inl w_19))] H := hP
            refine lv_iconst (v := (2 : Int32)) hx hb dX7_happens_108 (by decide) ?_
            refine lv_iload_n hx hb dX7_happens_109 rfl (lv_at hl 2 rfl) ?_
            refine lv_imul hx hb dX7_happens_110 ?_
            refine lv_istore_n (lv' := [(3, .int ((2 : Int32) * p1)), (0, .ref a_o), (1, .int p0), (2, .int p1)]) hx hb dX7_happens_111 rfl hl (by decide) rfl (fun ls hl => ?_)
            have hL112 : ∀  (k_112 : (Nat → Int32) → Option ((Nat → Int32))) (hk : ∀ (xc_o_g_112 : Nat → Int32) (ls : Array Slot), lv_has ls 4 [] → ∀ (H : Heap) (locs : List Loc), va_P (dC, dI) vwCl [(a_o, .inr (6, [.ref a_o_g, .ref a_o_kept, .ref a_o_was, .int o_isKept, .ref a_o_triangle, .int o_takenBy, .ref a_o_text, .int o_fed, .int o_place, .int o_letter, .int o_first, .int o_second, .ref a_o_sort, .ref a_o_size, .ref a_o_items])), (a_o_g, .inl (cI, 64, .inl xc_o_g_112))] H → va_S A s.heap H locs →  k_112 xc_o_g_112 = some r → W p l e rmX7_happens s m args below meth c H locs 0 0 Q (F0 m 147 ls [])) (fuel : Nat) (v3_112 : Int32) (o_g_112 : Nat → Int32) (ls : Array Slot), lv_has ls 4 [(0, .ref a_o), (3, .int v3_112)] → ∀ (H : Heap) (locs : List Loc), va_P (dC, dI) vwCl [(a_o, .inr (6, [.ref a_o_g, .ref a_o_kept, .ref a_o_was, .int o_isKept, .ref a_o_triangle, .int o_takenBy, .ref a_o_text, .int o_fed, .int o_place, .int o_letter, .int o_first, .int o_second, .ref a_o_sort, .ref a_o_size, .ref a_o_items])), (a_o_g, .inl (cI, 64, .inl o_g_112))] H → va_S A s.heap H locs → f_X7_happens_L112 k_112  fuel v3_112 o_g_112 = some r → W p l e rmX7_happens s m args below meth c H locs 0 0 Q (F0 m 112 ls []) := by
              intro k_112 hk fuel
              induction fuel with
              | zero =>
                intro v3_112 o_g_112 ls hl H locs hP hS hr
                rw [f_X7_happens_L112_z] at hr
                cases hr
              | succ fuel ih =>
                intro v3_112 o_g_112 ls hl H locs hP hS hr
                rw [f_X7_happens_L112_s] at hr
                refine lv_iload_n hx hb dX7_happens_112 rfl (lv_at hl 1 rfl) ?_
                refine lv_iconst (v := (2 : Int32)) hx hb dX7_happens_113 (by decide) ?_
                refine lv_aload_n hx hb dX7_happens_114 rfl (lv_at hl 0 rfl) ?_
                refine va_get (D := (dC, dI)) (ci := 6) (v := .ref a_o_g) (C := RX7) (T := TX7) (N := 15) hx hb hts iX7 hown hK hP 0 rfl rfl 0 (by decide) (hts (.fieldLink RX7 11 "PascalRowsModel" "g" "[I") (List.mem_of_getElem? (i := 1) rfl)) (fun _ h9 => h9) rfl dX7_happens_115 ?_
                refine lv_iconst (v := (4 : Int32)) hx hb dX7_happens_118 (by decide) ?_
                obtain ⟨g_20, eg_20, hg_20, hr⟩ := rd_e hr
                refine va_iald hx hb hK hP 1 0 rfl rfl hg_20 dX7_happens_119 ?_
                refine tp_ eg_20 ?_
                refine lv_imul hx hb dX7_happens_120 ?_
                refine lv_icmp_ge (tgt := 147) hx hb dX7_happens_121 (by decide) (fun c_21 => ?_) (fun c_21 => ?_)
                · have hr := ite_p hr c_21
                  exact hk o_g_112 ls (lv_sub hl [] rfl) H locs hP hS hr
                · have hr := ite_n hr c_21
                  refine lv_aload_n hx hb dX7_happens_124 rfl (lv_at hl 0 rfl) ?_
                  refine va_get (D := (dC, dI)) (ci := 6) (v := .ref a_o_g) (C := RX7) (T := TX7) (N := 15) hx hb hts iX7 hown hK hP 0 rfl rfl 0 (by decide) (hts (.fieldLink RX7 11 "PascalRowsModel" "g" "[I") (List.mem_of_getElem? (i := 1) rfl)) (fun _ h9 => h9) rfl dX7_happens_125 ?_
                  refine lv_iconst (v := (5 : Int32)) hx hb dX7_happens_128 (by decide) ?_
                  refine lv_iload_n hx hb dX7_happens_129 rfl (lv_at hl 1 rfl) ?_
                  refine lv_iadd hx hb dX7_happens_130 ?_
                  refine lv_aload_n hx hb dX7_happens_131 rfl (lv_at hl 0 rfl) ?_
                  refine va_get (D := (dC, dI)) (ci := 6) (v := .ref a_o_g) (C := RX7) (T := TX7) (N := 15) hx hb hts iX7 hown hK hP 0 rfl rfl 0 (by decide) (hts (.fieldLink RX7 11 "PascalRowsModel" "g" "[I") (List.mem_of_getElem? (i := 1) rfl)) (fun _ h9 => h9) rfl dX7_happens_132 ?_
                  refine lv_bipush (v := (7 : Int32)) hx hb dX7_happens_135 (by decide) ?_
                  refine lv_iload_n hx hb dX7_happens_137 rfl (lv_at hl 1 rfl) ?_
                  refine lv_iadd hx hb dX7_happens_138 ?_
                  obtain ⟨g_22, eg_22, hg_22, hr⟩ := rd_e hr
                  refine va_iald hx hb hK hP 1 0 rfl rfl hg_22 dX7_happens_139 ?_
                  refine tp_ eg_22 ?_
                  obtain ⟨w_23, ew_23, hw_23, hr⟩ := wr_e hr
                  refine va_iast hx hb hK hP (hD.fst rfl) hS 1 0 rfl rfl hw_23 dX7_happens_140 (fun H locs hP _ hS => ?_)
                  rw [← ew_23] at hP
                  have hP : va_P (dC, dI) vwCl [(a_o, .inr (6, [.ref a_o_g, .ref a_o_kept, .ref a_o_was, .int o_isKept, .ref a_o_triangle, .int o_takenBy, .ref a_o_text, .int o_fed, .int o_place, .int o_letter, .int o_first, .int o_second, .ref a_o_sort, .ref a_o_size, .ref a_o_items])), (a_o_g, .inl (cI, 64, .inl w_23))] H := hP
                  refine lv_iinc (v := (v3_112 + (1 : Int32))) (lv' := [(3, .int (v3_112 + (1 : Int32))), (0, .ref a_o)]) hx hb dX7_happens_141 hl (k := 1) rfl (congrArg (fun z => v3_112 + z) (by decide)) (by decide) rfl (fun ls hl => ?_)
                  refine lv_goto (tgt := 112) hx hb dX7_happens_144 (by decide) ?_
                  exact ih (v3_112 + (1 : Int32)) w_23 ls (lv_sub hl [1, 0] rfl) H locs hP hS hr
            refine hL112  _ (fun xc_o_g_112 ls hl H locs hP hS hr => ?_) 5000 ((2 : Int32) * p1) w_19 ls (lv_sub hl [1, 0] rfl) H locs hP hS hr
            obtain rfl := Option.some.inj hr
            exact hret H locs _ hP hS (fun Qc free hq hf => W.vret hx hb hrt hq hf dX7_happens_147 hlocks)
    · have hr := ite_p hr c_2
      refine lv_aload_n hx hb dX7_happens_52 rfl (lv_at hl 0 rfl) ?_
      refine va_get (D := (dC, dI)) (ci := 6) (v := .ref a_o_g) (C := RX7) (T := TX7) (N := 15) hx hb hts iX7 hown hK hP 0 rfl rfl 0 (by decide) (hts (.fieldLink RX7 11 "PascalRowsModel" "g" "[I") (List.mem_of_getElem? (i := 1) rfl)) (fun _ h9 => h9) rfl dX7_happens_53 ?_
      refine lv_iconst (v := (1 : Int32)) hx hb dX7_happens_56 (by decide) ?_
      refine lv_iload_n hx hb dX7_happens_57 rfl (lv_at hl 2 rfl) ?_
      obtain ⟨w_24, ew_24, hw_24, hr⟩ := wr_e hr
      refine va_iast hx hb hK hP (hD.fst rfl) hS 1 0 rfl rfl hw_24 dX7_happens_58 (fun H locs hP _ hS => ?_)
      rw [← ew_24] at hP
      have hP : va_P (dC, dI) vwCl [(a_o, .inr (6, [.ref a_o_g, .ref a_o_kept, .ref a_o_was, .int o_isKept, .ref a_o_triangle, .int o_takenBy, .ref a_o_text, .int o_fed, .int o_place, .int o_letter, .int o_first, .int o_second, .ref a_o_sort, .ref a_o_size, .ref a_o_items])), (a_o_g, .inl (cI, 64, .inl w_24))] H := hP
      refine lv_iload_n hx hb dX7_happens_59 rfl (lv_at hl 1 rfl) ?_
      refine lv_iconst (v := (2 : Int32)) hx hb dX7_happens_60 (by decide) ?_
      refine lv_icmp_ne (tgt := 83) hx hb dX7_happens_61 (by decide) (fun c_25 => ?_) (fun c_25 => ?_)
      · have hr := ite_n hr c_25
        refine lv_iload_n hx hb dX7_happens_83 rfl (lv_at hl 1 rfl) ?_
        refine lv_iconst (v := (3 : Int32)) hx hb dX7_happens_84 (by decide) ?_
        refine lv_icmp_ne (tgt := 147) hx hb dX7_happens_85 (by decide) (fun c_26 => ?_) (fun c_26 => ?_)
        · have hr := ite_n hr c_26
          obtain rfl := Option.some.inj hr
          exact hret H locs _ hP hS (fun Qc free hq hf => W.vret hx hb hrt hq hf dX7_happens_147 hlocks)
        · have hr := ite_p hr c_26
          refine lv_iload_n hx hb dX7_happens_88 rfl (lv_at hl 2 rfl) ?_
          refine lv_aload_n hx hb dX7_happens_89 rfl (lv_at hl 0 rfl) ?_
          refine va_get (D := (dC, dI)) (ci := 6) (v := .ref a_o_g) (C := RX7) (T := TX7) (N := 15) hx hb hts iX7 hown hK hP 0 rfl rfl 0 (by decide) (hts (.fieldLink RX7 11 "PascalRowsModel" "g" "[I") (List.mem_of_getElem? (i := 1) rfl)) (fun _ h9 => h9) rfl dX7_happens_90 ?_
          refine lv_iconst (v := (4 : Int32)) hx hb dX7_happens_93 (by decide) ?_
          obtain ⟨g_27, eg_27, hg_27, hr⟩ := rd_e hr
          refine va_iald hx hb hK hP 1 0 rfl rfl hg_27 dX7_happens_94 ?_
          refine tp_ eg_27 ?_
          refine lv_icmp_ge (tgt := 147) hx hb dX7_happens_95 (by decide) (fun c_28 => ?_) (fun c_28 => ?_)
          · have hr := ite_p hr c_28
            obtain rfl := Option.some.inj hr
            exact hret H locs _ hP hS (fun Qc free hq hf => W.vret hx hb hrt hq hf dX7_happens_147 hlocks)
          · have hr := ite_n hr c_28
            refine lv_aload_n hx hb dX7_happens_98 rfl (lv_at hl 0 rfl) ?_
            refine va_get (D := (dC, dI)) (ci := 6) (v := .ref a_o_g) (C := RX7) (T := TX7) (N := 15) hx hb hts iX7 hown hK hP 0 rfl rfl 0 (by decide) (hts (.fieldLink RX7 11 "PascalRowsModel" "g" "[I") (List.mem_of_getElem? (i := 1) rfl)) (fun _ h9 => h9) rfl dX7_happens_99 ?_
            refine lv_iconst (v := (4 : Int32)) hx hb dX7_happens_102 (by decide) ?_
            refine lv_dup2_11 hx hb dX7_happens_103 rfl rfl ?_
            obtain ⟨g_29, eg_29, hg_29, hr⟩ := rd_e hr
            refine va_iald hx hb hK hP 1 0 rfl rfl hg_29 dX7_happens_104 ?_
            refine tp_ eg_29 ?_
            refine lv_iconst (v := (1 : Int32)) hx hb dX7_happens_105 (by decide) ?_
            refine lv_isub hx hb dX7_happens_106 ?_
            obtain ⟨w_30, ew_30, hw_30, hr⟩ := wr_e hr
            refine va_iast hx hb hK hP (hD.fst rfl) hS 1 0 rfl rfl hw_30 dX7_happens_107 (fun H locs hP _ hS => ?_)
            rw [← ew_30] at hP
            have hP : va_P (dC, dI) vwCl [(a_o, .inr (6, [.ref a_o_g, .ref a_o_kept, .ref a_o_was, .int o_isKept, .ref a_o_triangle, .int o_takenBy, .ref a_o_text, .int o_fed, .int o_place, .int o_letter, .int o_first, .int o_second, .ref a_o_sort, .ref a_o_size, .ref a_o_items])), (a_o_g, .inl (cI, 64, .inl w_30))] H := hP
            refine lv_iconst (v := (2 : Int32)) hx hb dX7_happens_108 (by decide) ?_
            refine lv_iload_n hx hb dX7_happens_109 rfl (lv_at hl 2 rfl) ?_
            refine lv_imul hx hb dX7_happens_110 ?_
            refine lv_istore_n (lv' := [(3, .int ((2 : Int32) * p1)), (0, .ref a_o), (1, .int p0), (2, .int p1)]) hx hb dX7_happens_111 rfl hl (by decide) rfl (fun ls hl => ?_)
            have hL112 : ∀  (k_112 : (Nat → Int32) → Option ((Nat → Int32))) (hk : ∀ (xc_o_g_112 : Nat → Int32) (ls : Array Slot), lv_has ls 4 [] → ∀ (H : Heap) (locs : List Loc), va_P (dC, dI) vwCl [(a_o, .inr (6, [.ref a_o_g, .ref a_o_kept, .ref a_o_was, .int o_isKept, .ref a_o_triangle, .int o_takenBy, .ref a_o_text, .int o_fed, .int o_place, .int o_letter, .int o_first, .int o_second, .ref a_o_sort, .ref a_o_size, .ref a_o_items])), (a_o_g, .inl (cI, 64, .inl xc_o_g_112))] H → va_S A s.heap H locs →  k_112 xc_o_g_112 = some r → W p l e rmX7_happens s m args below meth c H locs 0 0 Q (F0 m 147 ls [])) (fuel : Nat) (v3_112 : Int32) (o_g_112 : Nat → Int32) (ls : Array Slot), lv_has ls 4 [(0, .ref a_o), (3, .int v3_112)] → ∀ (H : Heap) (locs : List Loc), va_P (dC, dI) vwCl [(a_o, .inr (6, [.ref a_o_g, .ref a_o_kept, .ref a_o_was, .int o_isKept, .ref a_o_triangle, .int o_takenBy, .ref a_o_text, .int o_fed, .int o_place, .int o_letter, .int o_first, .int o_second, .ref a_o_sort, .ref a_o_size, .ref a_o_items])), (a_o_g, .inl (cI, 64, .inl o_g_112))] H → va_S A s.heap H locs → f_X7_happens_L112 k_112  fuel v3_112 o_g_112 = some r → W p l e rmX7_happens s m args below meth c H locs 0 0 Q (F0 m 112 ls []) := by
              intro k_112 hk fuel
              induction fuel with
              | zero =>
                intro v3_112 o_g_112 ls hl H locs hP hS hr
                rw [f_X7_happens_L112_z] at hr
                cases hr
              | succ fuel ih =>
                intro v3_112 o_g_112 ls hl H locs hP hS hr
                rw [f_X7_happens_L112_s] at hr
                refine lv_iload_n hx hb dX7_happens_112 rfl (lv_at hl 1 rfl) ?_
                refine lv_iconst (v := (2 : Int32)) hx hb dX7_happens_113 (by decide) ?_
                refine lv_aload_n hx hb dX7_happens_114 rfl (lv_at hl 0 rfl) ?_
                refine va_get (D := (dC, dI)) (ci := 6) (v := .ref a_o_g) (C := RX7) (T := TX7) (N := 15) hx hb hts iX7 hown hK hP 0 rfl rfl 0 (by decide) (hts (.fieldLink RX7 11 "PascalRowsModel" "g" "[I") (List.mem_of_getElem? (i := 1) rfl)) (fun _ h9 => h9) rfl dX7_happens_115 ?_
                refine lv_iconst (v := (4 : Int32)) hx hb dX7_happens_118 (by decide) ?_
                obtain ⟨g_31, eg_31, hg_31, hr⟩ := rd_e hr
                refine va_iald hx hb hK hP 1 0 rfl rfl hg_31 dX7_happens_119 ?_
                refine tp_ eg_31 ?_
                refine lv_imul hx hb dX7_happens_120 ?_
                refine lv_icmp_ge (tgt := 147) hx hb dX7_happens_121 (by decide) (fun c_32 => ?_) (fun c_32 => ?_)
                · have hr := ite_p hr c_32
                  exact hk o_g_112 ls (lv_sub hl [] rfl) H locs hP hS hr
                · have hr := ite_n hr c_32
                  refine lv_aload_n hx hb dX7_happens_124 rfl (lv_at hl 0 rfl) ?_
                  refine va_get (D := (dC, dI)) (ci := 6) (v := .ref a_o_g) (C := RX7) (T := TX7) (N := 15) hx hb hts iX7 hown hK hP 0 rfl rfl 0 (by decide) (hts (.fieldLink RX7 11 "PascalRowsModel" "g" "[I") (List.mem_of_getElem? (i := 1) rfl)) (fun _ h9 => h9) rfl dX7_happens_125 ?_
                  refine lv_iconst (v := (5 : Int32)) hx hb dX7_happens_128 (by decide) ?_
                  refine lv_iload_n hx hb dX7_happens_129 rfl (lv_at hl 1 rfl) ?_
                  refine lv_iadd hx hb dX7_happens_130 ?_
                  refine lv_aload_n hx hb dX7_happens_131 rfl (lv_at hl 0 rfl) ?_
                  refine va_get (D := (dC, dI)) (ci := 6) (v := .ref a_o_g) (C := RX7) (T := TX7) (N := 15) hx hb hts iX7 hown hK hP 0 rfl rfl 0 (by decide) (hts (.fieldLink RX7 11 "PascalRowsModel" "g" "[I") (List.mem_of_getElem? (i := 1) rfl)) (fun _ h9 => h9) rfl dX7_happens_132 ?_
                  refine lv_bipush (v := (7 : Int32)) hx hb dX7_happens_135 (by decide) ?_
                  refine lv_iload_n hx hb dX7_happens_137 rfl (lv_at hl 1 rfl) ?_
                  refine lv_iadd hx hb dX7_happens_138 ?_
                  obtain ⟨g_33, eg_33, hg_33, hr⟩ := rd_e hr
                  refine va_iald hx hb hK hP 1 0 rfl rfl hg_33 dX7_happens_139 ?_
                  refine tp_ eg_33 ?_
                  obtain ⟨w_34, ew_34, hw_34, hr⟩ := wr_e hr
                  refine va_iast hx hb hK hP (hD.fst rfl) hS 1 0 rfl rfl hw_34 dX7_happens_140 (fun H locs hP _ hS => ?_)
                  rw [← ew_34] at hP
                  have hP : va_P (dC, dI) vwCl [(a_o, .inr (6, [.ref a_o_g, .ref a_o_kept, .ref a_o_was, .int o_isKept, .ref a_o_triangle, .int o_takenBy, .ref a_o_text, .int o_fed, .int o_place, .int o_letter, .int o_first, .int o_second, .ref a_o_sort, .ref a_o_size, .ref a_o_items])), (a_o_g, .inl (cI, 64, .inl w_34))] H := hP
                  refine lv_iinc (v := (v3_112 + (1 : Int32))) (lv' := [(3, .int (v3_112 + (1 : Int32))), (0, .ref a_o)]) hx hb dX7_happens_141 hl (k := 1) rfl (congrArg (fun z => v3_112 + z) (by decide)) (by decide) rfl (fun ls hl => ?_)
                  refine lv_goto (tgt := 112) hx hb dX7_happens_144 (by decide) ?_
                  exact ih (v3_112 + (1 : Int32)) w_34 ls (lv_sub hl [1, 0] rfl) H locs hP hS hr
            refine hL112  _ (fun xc_o_g_112 ls hl H locs hP hS hr => ?_) 5000 ((2 : Int32) * p1) w_30 ls (lv_sub hl [1, 0] rfl) H locs hP hS hr
            obtain rfl := Option.some.inj hr
            exact hret H locs _ hP hS (fun Qc free hq hf => W.vret hx hb hrt hq hf dX7_happens_147 hlocks)
      · have hr := ite_p hr c_25
        refine lv_aload_n hx hb dX7_happens_64 rfl (lv_at hl 0 rfl) ?_
        refine va_get (D := (dC, dI)) (ci := 6) (v := .ref a_o_g) (C := RX7) (T := TX7) (N := 15) hx hb hts iX7 hown hK hP 0 rfl rfl 0 (by decide) (hts (.fieldLink RX7 11 "PascalRowsModel" "g" "[I") (List.mem_of_getElem? (i := 1) rfl)) (fun _ h9 => h9) rfl dX7_happens_65 ?_
        refine lv_iconst (v := (2 : Int32)) hx hb dX7_happens_68 (by decide) ?_
        refine lv_bipush (v := (127 : Int32)) hx hb dX7_happens_69 (by decide) ?_
        refine lv_aload_n hx hb dX7_happens_71 rfl (lv_at hl 0 rfl) ?_
        refine va_get (D := (dC, dI)) (ci := 6) (v := .ref a_o_g) (C := RX7) (T := TX7) (N := 15) hx hb hts iX7 hown hK hP 0 rfl rfl 0 (by decide) (hts (.fieldLink RX7 11 "PascalRowsModel" "g" "[I") (List.mem_of_getElem? (i := 1) rfl)) (fun _ h9 => h9) rfl dX7_happens_72 ?_
        refine lv_iconst (v := (2 : Int32)) hx hb dX7_happens_75 (by decide) ?_
        obtain ⟨g_35, eg_35, hg_35, hr⟩ := rd_e hr
        refine va_iald hx hb hK hP 1 0 rfl rfl hg_35 dX7_happens_76 ?_
        refine tp_ eg_35 ?_
        refine lv_iload_n hx hb dX7_happens_77 rfl (lv_at hl 2 rfl) ?_
        refine lv_iadd hx hb dX7_happens_78 ?_
        refine va_mmin hx hb (hml.trans hl.1.symm) hown (hts (.methodLink RX7 195 Lib.Math.min.name) (List.mem_of_getElem? (i := 2) rfl)) (hts (.static Lib.Math.min.name) (List.mem_of_getElem? (i := 3) rfl)) (hts (.initialized "java/lang/Math") (List.mem_of_getElem? (i := 4) rfl)) (hts (.code Lib.Math.min.name Lib.Math.min.code 2 (some .int)) (List.mem_of_getElem? (i := 5) rfl)) (Nat.le_of_ble_eq_true rfl) (Nat.le_of_ble_eq_true rfl) (Nat.zero_le _) (Nat.zero_le _) dX7_happens_79 ?_
        obtain ⟨w_36, ew_36, hw_36, hr⟩ := wr_e hr
        refine va_iast hx hb hK hP (hD.fst rfl) hS 1 0 rfl rfl hw_36 dX7_happens_82 (fun H locs hP _ hS => ?_)
        rw [← ew_36] at hP
        have hP : va_P (dC, dI) vwCl [(a_o, .inr (6, [.ref a_o_g, .ref a_o_kept, .ref a_o_was, .int o_isKept, .ref a_o_triangle, .int o_takenBy, .ref a_o_text, .int o_fed, .int o_place, .int o_letter, .int o_first, .int o_second, .ref a_o_sort, .ref a_o_size, .ref a_o_items])), (a_o_g, .inl (cI, 64, .inl w_36))] H := hP
        refine lv_iload_n hx hb dX7_happens_83 rfl (lv_at hl 1 rfl) ?_
        refine lv_iconst (v := (3 : Int32)) hx hb dX7_happens_84 (by decide) ?_
        refine lv_icmp_ne (tgt := 147) hx hb dX7_happens_85 (by decide) (fun c_37 => ?_) (fun c_37 => ?_)
        · have hr := ite_n hr c_37
          obtain rfl := Option.some.inj hr
          exact hret H locs _ hP hS (fun Qc free hq hf => W.vret hx hb hrt hq hf dX7_happens_147 hlocks)
        · have hr := ite_p hr c_37
          refine lv_iload_n hx hb dX7_happens_88 rfl (lv_at hl 2 rfl) ?_
          refine lv_aload_n hx hb dX7_happens_89 rfl (lv_at hl 0 rfl) ?_
          refine va_get (D := (dC, dI)) (ci := 6) (v := .ref a_o_g) (C := RX7) (T := TX7) (N := 15) hx hb hts iX7 hown hK hP 0 rfl rfl 0 (by decide) (hts (.fieldLink RX7 11 "PascalRowsModel" "g" "[I") (List.mem_of_getElem? (i := 1) rfl)) (fun _ h9 => h9) rfl dX7_happens_90 ?_
          refine lv_iconst (v := (4 : Int32)) hx hb dX7_happens_93 (by decide) ?_
          obtain ⟨g_38, eg_38, hg_38, hr⟩ := rd_e hr
          refine va_iald hx hb hK hP 1 0 rfl rfl hg_38 dX7_happens_94 ?_
          refine tp_ eg_38 ?_
          refine lv_icmp_ge (tgt := 147) hx hb dX7_happens_95 (by decide) (fun c_39 => ?_) (fun c_39 => ?_)
          · have hr := ite_p hr c_39
            obtain rfl := Option.some.inj hr
            exact hret H locs _ hP hS (fun Qc free hq hf => W.vret hx hb hrt hq hf dX7_happens_147 hlocks)
          · have hr := ite_n hr c_39
            refine lv_aload_n hx hb dX7_happens_98 rfl (lv_at hl 0 rfl) ?_
            refine va_get (D := (dC, dI)) (ci := 6) (v := .ref a_o_g) (C := RX7) (T := TX7) (N := 15) hx hb hts iX7 hown hK hP 0 rfl rfl 0 (by decide) (hts (.fieldLink RX7 11 "PascalRowsModel" "g" "[I") (List.mem_of_getElem? (i := 1) rfl)) (fun _ h9 => h9) rfl dX7_happens_99 ?_
            refine lv_iconst (v := (4 : Int32)) hx hb dX7_happens_102 (by decide) ?_
            refine lv_dup2_11 hx hb dX7_happens_103 rfl rfl ?_
            obtain ⟨g_40, eg_40, hg_40, hr⟩ := rd_e hr
            refine va_iald hx hb hK hP 1 0 rfl rfl hg_40 dX7_happens_104 ?_
            refine tp_ eg_40 ?_
            refine lv_iconst (v := (1 : Int32)) hx hb dX7_happens_105 (by decide) ?_
            refine lv_isub hx hb dX7_happens_106 ?_
            obtain ⟨w_41, ew_41, hw_41, hr⟩ := wr_e hr
            refine va_iast hx hb hK hP (hD.fst rfl) hS 1 0 rfl rfl hw_41 dX7_happens_107 (fun H locs hP _ hS => ?_)
            rw [← ew_41] at hP
            have hP : va_P (dC, dI) vwCl [(a_o, .inr (6, [.ref a_o_g, .ref a_o_kept, .ref a_o_was, .int o_isKept, .ref a_o_triangle, .int o_takenBy, .ref a_o_text, .int o_fed, .int o_place, .int o_letter, .int o_first, .int o_second, .ref a_o_sort, .ref a_o_size, .ref a_o_items])), (a_o_g, .inl (cI, 64, .inl w_41))] H := hP
            refine lv_iconst (v := (2 : Int32)) hx hb dX7_happens_108 (by decide) ?_
            refine lv_iload_n hx hb dX7_happens_109 rfl (lv_at hl 2 rfl) ?_
            refine lv_imul hx hb dX7_happens_110 ?_
            refine lv_istore_n (lv' := [(3, .int ((2 : Int32) * p1)), (0, .ref a_o), (1, .int p0), (2, .int p1)]) hx hb dX7_happens_111 rfl hl (by decide) rfl (fun ls hl => ?_)
            have hL112 : ∀  (k_112 : (Nat → Int32) → Option ((Nat → Int32))) (hk : ∀ (xc_o_g_112 : Nat → Int32) (ls : Array Slot), lv_has ls 4 [] → ∀ (H : Heap) (locs : List Loc), va_P (dC, dI) vwCl [(a_o, .inr (6, [.ref a_o_g, .ref a_o_kept, .ref a_o_was, .int o_isKept, .ref a_o_triangle, .int o_takenBy, .ref a_o_text, .int o_fed, .int o_place, .int o_letter, .int o_first, .int o_second, .ref a_o_sort, .ref a_o_size, .ref a_o_items])), (a_o_g, .inl (cI, 64, .inl xc_o_g_112))] H → va_S A s.heap H locs →  k_112 xc_o_g_112 = some r → W p l e rmX7_happens s m args below meth c H locs 0 0 Q (F0 m 147 ls [])) (fuel : Nat) (v3_112 : Int32) (o_g_112 : Nat → Int32) (ls : Array Slot), lv_has ls 4 [(0, .ref a_o), (3, .int v3_112)] → ∀ (H : Heap) (locs : List Loc), va_P (dC, dI) vwCl [(a_o, .inr (6, [.ref a_o_g, .ref a_o_kept, .ref a_o_was, .int o_isKept, .ref a_o_triangle, .int o_takenBy, .ref a_o_text, .int o_fed, .int o_place, .int o_letter, .int o_first, .int o_second, .ref a_o_sort, .ref a_o_size, .ref a_o_items])), (a_o_g, .inl (cI, 64, .inl o_g_112))] H → va_S A s.heap H locs → f_X7_happens_L112 k_112  fuel v3_112 o_g_112 = some r → W p l e rmX7_happens s m args below meth c H locs 0 0 Q (F0 m 112 ls []) := by
              intro k_112 hk fuel
              induction fuel with
              | zero =>
                intro v3_112 o_g_112 ls hl H locs hP hS hr
                rw [f_X7_happens_L112_z] at hr
                cases hr
              | succ fuel ih =>
                intro v3_112 o_g_112 ls hl H locs hP hS hr
                rw [f_X7_happens_L112_s] at hr
                refine lv_iload_n hx hb dX7_happens_112 rfl (lv_at hl 1 rfl) ?_
                refine lv_iconst (v := (2 : Int32)) hx hb dX7_happens_113 (by decide) ?_
                refine lv_aload_n hx hb dX7_happens_114 rfl (lv_at hl 0 rfl) ?_
                refine va_get (D := (dC, dI)) (ci := 6) (v := .ref a_o_g) (C := RX7) (T := TX7) (N := 15) hx hb hts iX7 hown hK hP 0 rfl rfl 0 (by decide) (hts (.fieldLink RX7 11 "PascalRowsModel" "g" "[I") (List.mem_of_getElem? (i := 1) rfl)) (fun _ h9 => h9) rfl dX7_happens_115 ?_
                refine lv_iconst (v := (4 : Int32)) hx hb dX7_happens_118 (by decide) ?_
                obtain ⟨g_42, eg_42, hg_42, hr⟩ := rd_e hr
                refine va_iald hx hb hK hP 1 0 rfl rfl hg_42 dX7_happens_119 ?_
                refine tp_ eg_42 ?_
                refine lv_imul hx hb dX7_happens_120 ?_
                refine lv_icmp_ge (tgt := 147) hx hb dX7_happens_121 (by decide) (fun c_43 => ?_) (fun c_43 => ?_)
                · have hr := ite_p hr c_43
                  exact hk o_g_112 ls (lv_sub hl [] rfl) H locs hP hS hr
                · have hr := ite_n hr c_43
                  refine lv_aload_n hx hb dX7_happens_124 rfl (lv_at hl 0 rfl) ?_
                  refine va_get (D := (dC, dI)) (ci := 6) (v := .ref a_o_g) (C := RX7) (T := TX7) (N := 15) hx hb hts iX7 hown hK hP 0 rfl rfl 0 (by decide) (hts (.fieldLink RX7 11 "PascalRowsModel" "g" "[I") (List.mem_of_getElem? (i := 1) rfl)) (fun _ h9 => h9) rfl dX7_happens_125 ?_
                  refine lv_iconst (v := (5 : Int32)) hx hb dX7_happens_128 (by decide) ?_
                  refine lv_iload_n hx hb dX7_happens_129 rfl (lv_at hl 1 rfl) ?_
                  refine lv_iadd hx hb dX7_happens_130 ?_
                  refine lv_aload_n hx hb dX7_happens_131 rfl (lv_at hl 0 rfl) ?_
                  refine va_get (D := (dC, dI)) (ci := 6) (v := .ref a_o_g) (C := RX7) (T := TX7) (N := 15) hx hb hts iX7 hown hK hP 0 rfl rfl 0 (by decide) (hts (.fieldLink RX7 11 "PascalRowsModel" "g" "[I") (List.mem_of_getElem? (i := 1) rfl)) (fun _ h9 => h9) rfl dX7_happens_132 ?_
                  refine lv_bipush (v := (7 : Int32)) hx hb dX7_happens_135 (by decide) ?_
                  refine lv_iload_n hx hb dX7_happens_137 rfl (lv_at hl 1 rfl) ?_
                  refine lv_iadd hx hb dX7_happens_138 ?_
                  obtain ⟨g_44, eg_44, hg_44, hr⟩ := rd_e hr
                  refine va_iald hx hb hK hP 1 0 rfl rfl hg_44 dX7_happens_139 ?_
                  refine tp_ eg_44 ?_
                  obtain ⟨w_45, ew_45, hw_45, hr⟩ := wr_e hr
                  refine va_iast hx hb hK hP (hD.fst rfl) hS 1 0 rfl rfl hw_45 dX7_happens_140 (fun H locs hP _ hS => ?_)
                  rw [← ew_45] at hP
                  have hP : va_P (dC, dI) vwCl [(a_o, .inr (6, [.ref a_o_g, .ref a_o_kept, .ref a_o_was, .int o_isKept, .ref a_o_triangle, .int o_takenBy, .ref a_o_text, .int o_fed, .int o_place, .int o_letter, .int o_first, .int o_second, .ref a_o_sort, .ref a_o_size, .ref a_o_items])), (a_o_g, .inl (cI, 64, .inl w_45))] H := hP
                  refine lv_iinc (v := (v3_112 + (1 : Int32))) (lv' := [(3, .int (v3_112 + (1 : Int32))), (0, .ref a_o)]) hx hb dX7_happens_141 hl (k := 1) rfl (congrArg (fun z => v3_112 + z) (by decide)) (by decide) rfl (fun ls hl => ?_)
                  refine lv_goto (tgt := 112) hx hb dX7_happens_144 (by decide) ?_
                  exact ih (v3_112 + (1 : Int32)) w_45 ls (lv_sub hl [1, 0] rfl) H locs hP hS hr
            refine hL112  _ (fun xc_o_g_112 ls hl H locs hP hS hr => ?_) 5000 ((2 : Int32) * p1) w_41 ls (lv_sub hl [1, 0] rfl) H locs hP hS hr
            obtain rfl := Option.some.inj hr
            exact hret H locs _ hP hS (fun Qc free hq hf => W.vret hx hb hrt hq hf dX7_happens_147 hlocks)
  · have hr := ite_p hr c_1
    refine lv_aload_n hx hb dX7_happens_4 rfl (lv_at hl 0 rfl) ?_
    refine va_get (D := (dC, dI)) (ci := 6) (v := .ref a_o_g) (C := RX7) (T := TX7) (N := 15) hx hb hts iX7 hown hK hP 0 rfl rfl 0 (by decide) (hts (.fieldLink RX7 11 "PascalRowsModel" "g" "[I") (List.mem_of_getElem? (i := 1) rfl)) (fun _ h9 => h9) rfl dX7_happens_5 ?_
    refine lv_iconst (v := (0 : Int32)) hx hb dX7_happens_8 (by decide) ?_
    refine lv_aload_n hx hb dX7_happens_9 rfl (lv_at hl 0 rfl) ?_
    refine va_get (D := (dC, dI)) (ci := 6) (v := .ref a_o_g) (C := RX7) (T := TX7) (N := 15) hx hb hts iX7 hown hK hP 0 rfl rfl 0 (by decide) (hts (.fieldLink RX7 11 "PascalRowsModel" "g" "[I") (List.mem_of_getElem? (i := 1) rfl)) (fun _ h9 => h9) rfl dX7_happens_10 ?_
    refine lv_iconst (v := (0 : Int32)) hx hb dX7_happens_13 (by decide) ?_
    obtain ⟨g_46, eg_46, hg_46, hr⟩ := rd_e hr
    refine va_iald hx hb hK hP 1 0 rfl rfl hg_46 dX7_happens_14 ?_
    refine tp_ eg_46 ?_
    refine lv_iconst (v := (2 : Int32)) hx hb dX7_happens_15 (by decide) ?_
    refine lv_icmp_ne (tgt := 23) hx hb dX7_happens_16 (by decide) (fun c_47 => ?_) (fun c_47 => ?_)
    · have hr := ite_n hr c_47
      refine lv_aload_n hx hb dX7_happens_23 rfl (lv_at hl 0 rfl) ?_
      refine va_get (D := (dC, dI)) (ci := 6) (v := .ref a_o_g) (C := RX7) (T := TX7) (N := 15) hx hb hts iX7 hown hK hP 0 rfl rfl 0 (by decide) (hts (.fieldLink RX7 11 "PascalRowsModel" "g" "[I") (List.mem_of_getElem? (i := 1) rfl)) (fun _ h9 => h9) rfl dX7_happens_24 ?_
      refine lv_iconst (v := (0 : Int32)) hx hb dX7_happens_27 (by decide) ?_
      obtain ⟨g_48, eg_48, hg_48, hr⟩ := rd_e hr
      refine va_iald hx hb hK hP 1 0 rfl rfl hg_48 dX7_happens_28 ?_
      refine tp_ eg_48 ?_
      refine lv_bipush (v := (7 : Int32)) hx hb dX7_happens_29 (by decide) ?_
      refine lv_icmp_ne (tgt := 38) hx hb dX7_happens_31 (by decide) (fun c_49 => ?_) (fun c_49 => ?_)
      · have hr := ite_n hr c_49
        refine lv_aload_n hx hb dX7_happens_38 rfl (lv_at hl 0 rfl) ?_
        refine va_get (D := (dC, dI)) (ci := 6) (v := .ref a_o_g) (C := RX7) (T := TX7) (N := 15) hx hb hts iX7 hown hK hP 0 rfl rfl 0 (by decide) (hts (.fieldLink RX7 11 "PascalRowsModel" "g" "[I") (List.mem_of_getElem? (i := 1) rfl)) (fun _ h9 => h9) rfl dX7_happens_39 ?_
        refine lv_iconst (v := (0 : Int32)) hx hb dX7_happens_42 (by decide) ?_
        obtain ⟨g_50, eg_50, hg_50, hr⟩ := rd_e hr
        refine va_iald hx hb hK hP 1 0 rfl rfl hg_50 dX7_happens_43 ?_
        refine tp_ eg_50 ?_
        refine lv_iconst (v := (2 : Int32)) hx hb dX7_happens_44 (by decide) ?_
        refine lv_iadd hx hb dX7_happens_45 ?_
        obtain ⟨w_51, ew_51, hw_51, hr⟩ := wr_e hr
        refine va_iast hx hb hK hP (hD.fst rfl) hS 1 0 rfl rfl hw_51 dX7_happens_46 (fun H locs hP _ hS => ?_)
        rw [← ew_51] at hP
        have hP : va_P (dC, dI) vwCl [(a_o, .inr (6, [.ref a_o_g, .ref a_o_kept, .ref a_o_was, .int o_isKept, .ref a_o_triangle, .int o_takenBy, .ref a_o_text, .int o_fed, .int o_place, .int o_letter, .int o_first, .int o_second, .ref a_o_sort, .ref a_o_size, .ref a_o_items])), (a_o_g, .inl (cI, 64, .inl w_51))] H := hP
        refine lv_iload_n hx hb dX7_happens_47 rfl (lv_at hl 1 rfl) ?_
        refine lv_iconst (v := (1 : Int32)) hx hb dX7_happens_48 (by decide) ?_
        refine lv_icmp_ne (tgt := 59) hx hb dX7_happens_49 (by decide) (fun c_52 => ?_) (fun c_52 => ?_)
        · have hr := ite_n hr c_52
          refine lv_iload_n hx hb dX7_happens_59 rfl (lv_at hl 1 rfl) ?_
          refine lv_iconst (v := (2 : Int32)) hx hb dX7_happens_60 (by decide) ?_
          refine lv_icmp_ne (tgt := 83) hx hb dX7_happens_61 (by decide) (fun c_53 => ?_) (fun c_53 => ?_)
          · have hr := ite_n hr c_53
            refine lv_iload_n hx hb dX7_happens_83 rfl (lv_at hl 1 rfl) ?_
            refine lv_iconst (v := (3 : Int32)) hx hb dX7_happens_84 (by decide) ?_
            refine lv_icmp_ne (tgt := 147) hx hb dX7_happens_85 (by decide) (fun c_54 => ?_) (fun c_54 => ?_)
            · have hr := ite_n hr c_54
              obtain rfl := Option.some.inj hr
              exact hret H locs _ hP hS (fun Qc free hq hf => W.vret hx hb hrt hq hf dX7_happens_147 hlocks)
            · have hr := ite_p hr c_54
              refine lv_iload_n hx hb dX7_happens_88 rfl (lv_at hl 2 rfl) ?_
              refine lv_aload_n hx hb dX7_happens_89 rfl (lv_at hl 0 rfl) ?_
              refine va_get (D := (dC, dI)) (ci := 6) (v := .ref a_o_g) (C := RX7) (T := TX7) (N := 15) hx hb hts iX7 hown hK hP 0 rfl rfl 0 (by decide) (hts (.fieldLink RX7 11 "PascalRowsModel" "g" "[I") (List.mem_of_getElem? (i := 1) rfl)) (fun _ h9 => h9) rfl dX7_happens_90 ?_
              refine lv_iconst (v := (4 : Int32)) hx hb dX7_happens_93 (by decide) ?_
              obtain ⟨g_55, eg_55, hg_55, hr⟩ := rd_e hr
              refine va_iald hx hb hK hP 1 0 rfl rfl hg_55 dX7_happens_94 ?_
              refine tp_ eg_55 ?_
              refine lv_icmp_ge (tgt := 147) hx hb dX7_happens_95 (by decide) (fun c_56 => ?_) (fun c_56 => ?_)
              · have hr := ite_p hr c_56
                obtain rfl := Option.some.inj hr
                exact hret H locs _ hP hS (fun Qc free hq hf => W.vret hx hb hrt hq hf dX7_happens_147 hlocks)
              · have hr := ite_n hr c_56
                refine lv_aload_n hx hb dX7_happens_98 rfl (lv_at hl 0 rfl) ?_
                refine va_get (D := (dC, dI)) (ci := 6) (v := .ref a_o_g) (C := RX7) (T := TX7) (N := 15) hx hb hts iX7 hown hK hP 0 rfl rfl 0 (by decide) (hts (.fieldLink RX7 11 "PascalRowsModel" "g" "[I") (List.mem_of_getElem? (i := 1) rfl)) (fun _ h9 => h9) rfl dX7_happens_99 ?_
                refine lv_iconst (v := (4 : Int32)) hx hb dX7_happens_102 (by decide) ?_
                refine lv_dup2_11 hx hb dX7_happens_103 rfl rfl ?_
                obtain ⟨g_57, eg_57, hg_57, hr⟩ := rd_e hr
                refine va_iald hx hb hK hP 1 0 rfl rfl hg_57 dX7_happens_104 ?_
                refine tp_ eg_57 ?_
                refine lv_iconst (v := (1 : Int32)) hx hb dX7_happens_105 (by decide) ?_
                refine lv_isub hx hb dX7_happens_106 ?_
                obtain ⟨w_58, ew_58, hw_58, hr⟩ := wr_e hr
                refine va_iast hx hb hK hP (hD.fst rfl) hS 1 0 rfl rfl hw_58 dX7_happens_107 (fun H locs hP _ hS => ?_)
                rw [← ew_58] at hP
                have hP : va_P (dC, dI) vwCl [(a_o, .inr (6, [.ref a_o_g, .ref a_o_kept, .ref a_o_was, .int o_isKept, .ref a_o_triangle, .int o_takenBy, .ref a_o_text, .int o_fed, .int o_place, .int o_letter, .int o_first, .int o_second, .ref a_o_sort, .ref a_o_size, .ref a_o_items])), (a_o_g, .inl (cI, 64, .inl w_58))] H := hP
                refine lv_iconst (v := (2 : Int32)) hx hb dX7_happens_108 (by decide) ?_
                refine lv_iload_n hx hb dX7_happens_109 rfl (lv_at hl 2 rfl) ?_
                refine lv_imul hx hb dX7_happens_110 ?_
                refine lv_istore_n (lv' := [(3, .int ((2 : Int32) * p1)), (0, .ref a_o), (1, .int p0), (2, .int p1)]) hx hb dX7_happens_111 rfl hl (by decide) rfl (fun ls hl => ?_)
                have hL112 : ∀  (k_112 : (Nat → Int32) → Option ((Nat → Int32))) (hk : ∀ (xc_o_g_112 : Nat → Int32) (ls : Array Slot), lv_has ls 4 [] → ∀ (H : Heap) (locs : List Loc), va_P (dC, dI) vwCl [(a_o, .inr (6, [.ref a_o_g, .ref a_o_kept, .ref a_o_was, .int o_isKept, .ref a_o_triangle, .int o_takenBy, .ref a_o_text, .int o_fed, .int o_place, .int o_letter, .int o_first, .int o_second, .ref a_o_sort, .ref a_o_size, .ref a_o_items])), (a_o_g, .inl (cI, 64, .inl xc_o_g_112))] H → va_S A s.heap H locs →  k_112 xc_o_g_112 = some r → W p l e rmX7_happens s m args below meth c H locs 0 0 Q (F0 m 147 ls [])) (fuel : Nat) (v3_112 : Int32) (o_g_112 : Nat → Int32) (ls : Array Slot), lv_has ls 4 [(0, .ref a_o), (3, .int v3_112)] → ∀ (H : Heap) (locs : List Loc), va_P (dC, dI) vwCl [(a_o, .inr (6, [.ref a_o_g, .ref a_o_kept, .ref a_o_was, .int o_isKept, .ref a_o_triangle, .int o_takenBy, .ref a_o_text, .int o_fed, .int o_place, .int o_letter, .int o_first, .int o_second, .ref a_o_sort, .ref a_o_size, .ref a_o_items])), (a_o_g, .inl (cI, 64, .inl o_g_112))] H → va_S A s.heap H locs → f_X7_happens_L112 k_112  fuel v3_112 o_g_112 = some r → W p l e rmX7_happens s m args below meth c H locs 0 0 Q (F0 m 112 ls []) := by
                  intro k_112 hk fuel
                  induction fuel with
                  | zero =>
                    intro v3_112 o_g_112 ls hl H locs hP hS hr
                    rw [f_X7_happens_L112_z] at hr
                    cases hr
                  | succ fuel ih =>
                    intro v3_112 o_g_112 ls hl H locs hP hS hr
                    rw [f_X7_happens_L112_s] at hr
                    refine lv_iload_n hx hb dX7_happens_112 rfl (lv_at hl 1 rfl) ?_
                    refine lv_iconst (v := (2 : Int32)) hx hb dX7_happens_113 (by decide) ?_
                    refine lv_aload_n hx hb dX7_happens_114 rfl (lv_at hl 0 rfl) ?_
                    refine va_get (D := (dC, dI)) (ci := 6) (v := .ref a_o_g) (C := RX7) (T := TX7) (N := 15) hx hb hts iX7 hown hK hP 0 rfl rfl 0 (by decide) (hts (.fieldLink RX7 11 "PascalRowsModel" "g" "[I") (List.mem_of_getElem? (i := 1) rfl)) (fun _ h9 => h9) rfl dX7_happens_115 ?_
                    refine lv_iconst (v := (4 : Int32)) hx hb dX7_happens_118 (by decide) ?_
                    obtain ⟨g_59, eg_59, hg_59, hr⟩ := rd_e hr
                    refine va_iald hx hb hK hP 1 0 rfl rfl hg_59 dX7_happens_119 ?_
                    refine tp_ eg_59 ?_
                    refine lv_imul hx hb dX7_happens_120 ?_
                    refine lv_icmp_ge (tgt := 147) hx hb dX7_happens_121 (by decide) (fun c_60 => ?_) (fun c_60 => ?_)
                    · have hr := ite_p hr c_60
                      exact hk o_g_112 ls (lv_sub hl [] rfl) H locs hP hS hr
                    · have hr := ite_n hr c_60
                      refine lv_aload_n hx hb dX7_happens_124 rfl (lv_at hl 0 rfl) ?_
                      refine va_get (D := (dC, dI)) (ci := 6) (v := .ref a_o_g) (C := RX7) (T := TX7) (N := 15) hx hb hts iX7 hown hK hP 0 rfl rfl 0 (by decide) (hts (.fieldLink RX7 11 "PascalRowsModel" "g" "[I") (List.mem_of_getElem? (i := 1) rfl)) (fun _ h9 => h9) rfl dX7_happens_125 ?_
                      refine lv_iconst (v := (5 : Int32)) hx hb dX7_happens_128 (by decide) ?_
                      refine lv_iload_n hx hb dX7_happens_129 rfl (lv_at hl 1 rfl) ?_
                      refine lv_iadd hx hb dX7_happens_130 ?_
                      refine lv_aload_n hx hb dX7_happens_131 rfl (lv_at hl 0 rfl) ?_
                      refine va_get (D := (dC, dI)) (ci := 6) (v := .ref a_o_g) (C := RX7) (T := TX7) (N := 15) hx hb hts iX7 hown hK hP 0 rfl rfl 0 (by decide) (hts (.fieldLink RX7 11 "PascalRowsModel" "g" "[I") (List.mem_of_getElem? (i := 1) rfl)) (fun _ h9 => h9) rfl dX7_happens_132 ?_
                      refine lv_bipush (v := (7 : Int32)) hx hb dX7_happens_135 (by decide) ?_
                      refine lv_iload_n hx hb dX7_happens_137 rfl (lv_at hl 1 rfl) ?_
                      refine lv_iadd hx hb dX7_happens_138 ?_
                      obtain ⟨g_61, eg_61, hg_61, hr⟩ := rd_e hr
                      refine va_iald hx hb hK hP 1 0 rfl rfl hg_61 dX7_happens_139 ?_
                      refine tp_ eg_61 ?_
                      obtain ⟨w_62, ew_62, hw_62, hr⟩ := wr_e hr
                      refine va_iast hx hb hK hP (hD.fst rfl) hS 1 0 rfl rfl hw_62 dX7_happens_140 (fun H locs hP _ hS => ?_)
                      rw [← ew_62] at hP
                      have hP : va_P (dC, dI) vwCl [(a_o, .inr (6, [.ref a_o_g, .ref a_o_kept, .ref a_o_was, .int o_isKept, .ref a_o_triangle, .int o_takenBy, .ref a_o_text, .int o_fed, .int o_place, .int o_letter, .int o_first, .int o_second, .ref a_o_sort, .ref a_o_size, .ref a_o_items])), (a_o_g, .inl (cI, 64, .inl w_62))] H := hP
                      refine lv_iinc (v := (v3_112 + (1 : Int32))) (lv' := [(3, .int (v3_112 + (1 : Int32))), (0, .ref a_o)]) hx hb dX7_happens_141 hl (k := 1) rfl (congrArg (fun z => v3_112 + z) (by decide)) (by decide) rfl (fun ls hl => ?_)
                      refine lv_goto (tgt := 112) hx hb dX7_happens_144 (by decide) ?_
                      exact ih (v3_112 + (1 : Int32)) w_62 ls (lv_sub hl [1, 0] rfl) H locs hP hS hr
                refine hL112  _ (fun xc_o_g_112 ls hl H locs hP hS hr => ?_) 5000 ((2 : Int32) * p1) w_58 ls (lv_sub hl [1, 0] rfl) H locs hP hS hr
                obtain rfl := Option.some.inj hr
                exact hret H locs _ hP hS (fun Qc free hq hf => W.vret hx hb hrt hq hf dX7_happens_147 hlocks)
          · have hr := ite_p hr c_53
            refine lv_aload_n hx hb dX7_happens_64 rfl (lv_at hl 0 rfl) ?_
            refine va_get (D := (dC, dI)) (ci := 6) (v := .ref a_o_g) (C := RX7) (T := TX7) (N := 15) hx hb hts iX7 hown hK hP 0 rfl rfl 0 (by decide) (hts (.fieldLink RX7 11 "PascalRowsModel" "g" "[I") (List.mem_of_getElem? (i := 1) rfl)) (fun _ h9 => h9) rfl dX7_happens_65 ?_
            refine lv_iconst (v := (2 : Int32)) hx hb dX7_happens_68 (by decide) ?_
            refine lv_bipush (v := (127 : Int32)) hx hb dX7_happens_69 (by decide) ?_
            refine lv_aload_n hx hb dX7_happens_71 rfl (lv_at hl 0 rfl) ?_
            refine va_get (D := (dC, dI)) (ci := 6) (v := .ref a_o_g) (C := RX7) (T := TX7) (N := 15) hx hb hts iX7 hown hK hP 0 rfl rfl 0 (by decide) (hts (.fieldLink RX7 11 "PascalRowsModel" "g" "[I") (List.mem_of_getElem? (i := 1) rfl)) (fun _ h9 => h9) rfl dX7_happens_72 ?_
            refine lv_iconst (v := (2 : Int32)) hx hb dX7_happens_75 (by decide) ?_
            obtain ⟨g_63, eg_63, hg_63, hr⟩ := rd_e hr
            refine va_iald hx hb hK hP 1 0 rfl rfl hg_63 dX7_happens_76 ?_
            refine tp_ eg_63 ?_
            refine lv_iload_n hx hb dX7_happens_77 rfl (lv_at hl 2 rfl) ?_
            refine lv_iadd hx hb dX7_happens_78 ?_
            refine va_mmin hx hb (hml.trans hl.1.symm) hown (hts (.methodLink RX7 195 Lib.Math.min.name) (List.mem_of_getElem? (i := 2) rfl)) (hts (.static Lib.Math.min.name) (List.mem_of_getElem? (i := 3) rfl)) (hts (.initialized "java/lang/Math") (List.mem_of_getElem? (i := 4) rfl)) (hts (.code Lib.Math.min.name Lib.Math.min.code 2 (some .int)) (List.mem_of_getElem? (i := 5) rfl)) (Nat.le_of_ble_eq_true rfl) (Nat.le_of_ble_eq_true rfl) (Nat.zero_le _) (Nat.zero_le _) dX7_happens_79 ?_
            obtain ⟨w_64, ew_64, hw_64, hr⟩ := wr_e hr
            refine va_iast hx hb hK hP (hD.fst rfl) hS 1 0 rfl rfl hw_64 dX7_happens_82 (fun H locs hP _ hS => ?_)
            rw [← ew_64] at hP
            have hP : va_P (dC, dI) vwCl [(a_o, .inr (6, [.ref a_o_g, .ref a_o_kept, .ref a_o_was, .int o_isKept, .ref a_o_triangle, .int o_takenBy, .ref a_o_text, .int o_fed, .int o_place, .int o_letter, .int o_first, .int o_second, .ref a_o_sort, .ref a_o_size, .ref a_o_items])), (a_o_g, .inl (cI, 64, .inl w_64))] H := hP
            refine lv_iload_n hx hb dX7_happens_83 rfl (lv_at hl 1 rfl) ?_
            refine lv_iconst (v := (3 : Int32)) hx hb dX7_happens_84 (by decide) ?_
            refine lv_icmp_ne (tgt := 147) hx hb dX7_happens_85 (by decide) (fun c_65 => ?_) (fun c_65 => ?_)
            · have hr := ite_n hr c_65
              obtain rfl := Option.some.inj hr
              exact hret H locs _ hP hS (fun Qc free hq hf => W.vret hx hb hrt hq hf dX7_happens_147 hlocks)
            · have hr := ite_p hr c_65
              refine lv_iload_n hx hb dX7_happens_88 rfl (lv_at hl 2 rfl) ?_
              refine lv_aload_n hx hb dX7_happens_89 rfl (lv_at hl 0 rfl) ?_
              refine va_get (D := (dC, dI)) (ci := 6) (v := .ref a_o_g) (C := RX7) (T := TX7) (N := 15) hx hb hts iX7 hown hK hP 0 rfl rfl 0 (by decide) (hts (.fieldLink RX7 11 "PascalRowsModel" "g" "[I") (List.mem_of_getElem? (i := 1) rfl)) (fun _ h9 => h9) rfl dX7_happens_90 ?_
              refine lv_iconst (v := (4 : Int32)) hx hb dX7_happens_93 (by decide) ?_
              obtain ⟨g_66, eg_66, hg_66, hr⟩ := rd_e hr
              refine va_iald hx hb hK hP 1 0 rfl rfl hg_66 dX7_happens_94 ?_
              refine tp_ eg_66 ?_
              refine lv_icmp_ge (tgt := 147) hx hb dX7_happens_95 (by decide) (fun c_67 => ?_) (fun c_67 => ?_)
              · have hr := ite_p hr c_67
                obtain rfl := Option.some.inj hr
                exact hret H locs _ hP hS (fun Qc free hq hf => W.vret hx hb hrt hq hf dX7_happens_147 hlocks)
              · have hr := ite_n hr c_67
                refine lv_aload_n hx hb dX7_happens_98 rfl (lv_at hl 0 rfl) ?_
                refine va_get (D := (dC, dI)) (ci := 6) (v := .ref a_o_g) (C := RX7) (T := TX7) (N := 15) hx hb hts iX7 hown hK hP 0 rfl rfl 0 (by decide) (hts (.fieldLink RX7 11 "PascalRowsModel" "g" "[I") (List.mem_of_getElem? (i := 1) rfl)) (fun _ h9 => h9) rfl dX7_happens_99 ?_
                refine lv_iconst (v := (4 : Int32)) hx hb dX7_happens_102 (by decide) ?_
                refine lv_dup2_11 hx hb dX7_happens_103 rfl rfl ?_
                obtain ⟨g_68, eg_68, hg_68, hr⟩ := rd_e hr
                refine va_iald hx hb hK hP 1 0 rfl rfl hg_68 dX7_happens_104 ?_
                refine tp_ eg_68 ?_
                refine lv_iconst (v := (1 : Int32)) hx hb dX7_happens_105 (by decide) ?_
                refine lv_isub hx hb dX7_happens_106 ?_
                obtain ⟨w_69, ew_69, hw_69, hr⟩ := wr_e hr
                refine va_iast hx hb hK hP (hD.fst rfl) hS 1 0 rfl rfl hw_69 dX7_happens_107 (fun H locs hP _ hS => ?_)
                rw [← ew_69] at hP
                have hP : va_P (dC, dI) vwCl [(a_o, .inr (6, [.ref a_o_g, .ref a_o_kept, .ref a_o_was, .int o_isKept, .ref a_o_triangle, .int o_takenBy, .ref a_o_text, .int o_fed, .int o_place, .int o_letter, .int o_first, .int o_second, .ref a_o_sort, .ref a_o_size, .ref a_o_items])), (a_o_g, .inl (cI, 64, .inl w_69))] H := hP
                refine lv_iconst (v := (2 : Int32)) hx hb dX7_happens_108 (by decide) ?_
                refine lv_iload_n hx hb dX7_happens_109 rfl (lv_at hl 2 rfl) ?_
                refine lv_imul hx hb dX7_happens_110 ?_
                refine lv_istore_n (lv' := [(3, .int ((2 : Int32) * p1)), (0, .ref a_o), (1, .int p0), (2, .int p1)]) hx hb dX7_happens_111 rfl hl (by decide) rfl (fun ls hl => ?_)
                have hL112 : ∀  (k_112 : (Nat → Int32) → Option ((Nat → Int32))) (hk : ∀ (xc_o_g_112 : Nat → Int32) (ls : Array Slot), lv_has ls 4 [] → ∀ (H : Heap) (locs : List Loc), va_P (dC, dI) vwCl [(a_o, .inr (6, [.ref a_o_g, .ref a_o_kept, .ref a_o_was, .int o_isKept, .ref a_o_triangle, .int o_takenBy, .ref a_o_text, .int o_fed, .int o_place, .int o_letter, .int o_first, .int o_second, .ref a_o_sort, .ref a_o_size, .ref a_o_items])), (a_o_g, .inl (cI, 64, .inl xc_o_g_112))] H → va_S A s.heap H locs →  k_112 xc_o_g_112 = some r → W p l e rmX7_happens s m args below meth c H locs 0 0 Q (F0 m 147 ls [])) (fuel : Nat) (v3_112 : Int32) (o_g_112 : Nat → Int32) (ls : Array Slot), lv_has ls 4 [(0, .ref a_o), (3, .int v3_112)] → ∀ (H : Heap) (locs : List Loc), va_P (dC, dI) vwCl [(a_o, .inr (6, [.ref a_o_g, .ref a_o_kept, .ref a_o_was, .int o_isKept, .ref a_o_triangle, .int o_takenBy, .ref a_o_text, .int o_fed, .int o_place, .int o_letter, .int o_first, .int o_second, .ref a_o_sort, .ref a_o_size, .ref a_o_items])), (a_o_g, .inl (cI, 64, .inl o_g_112))] H → va_S A s.heap H locs → f_X7_happens_L112 k_112  fuel v3_112 o_g_112 = some r → W p l e rmX7_happens s m args below meth c H locs 0 0 Q (F0 m 112 ls []) := by
                  intro k_112 hk fuel
                  induction fuel with
                  | zero =>
                    intro v3_112 o_g_112 ls hl H locs hP hS hr
                    rw [f_X7_happens_L112_z] at hr
                    cases hr
                  | succ fuel ih =>
                    intro v3_112 o_g_112 ls hl H locs hP hS hr
                    rw [f_X7_happens_L112_s] at hr
                    refine lv_iload_n hx hb dX7_happens_112 rfl (lv_at hl 1 rfl) ?_
                    refine lv_iconst (v := (2 : Int32)) hx hb dX7_happens_113 (by decide) ?_
                    refine lv_aload_n hx hb dX7_happens_114 rfl (lv_at hl 0 rfl) ?_
                    refine va_get (D := (dC, dI)) (ci := 6) (v := .ref a_o_g) (C := RX7) (T := TX7) (N := 15) hx hb hts iX7 hown hK hP 0 rfl rfl 0 (by decide) (hts (.fieldLink RX7 11 "PascalRowsModel" "g" "[I") (List.mem_of_getElem? (i := 1) rfl)) (fun _ h9 => h9) rfl dX7_happens_115 ?_
                    refine lv_iconst (v := (4 : Int32)) hx hb dX7_happens_118 (by decide) ?_
                    obtain ⟨g_70, eg_70, hg_70, hr⟩ := rd_e hr
                    refine va_iald hx hb hK hP 1 0 rfl rfl hg_70 dX7_happens_119 ?_
                    refine tp_ eg_70 ?_
                    refine lv_imul hx hb dX7_happens_120 ?_
                    refine lv_icmp_ge (tgt := 147) hx hb dX7_happens_121 (by decide) (fun c_71 => ?_) (fun c_71 => ?_)
                    · have hr := ite_p hr c_71
                      exact hk o_g_112 ls (lv_sub hl [] rfl) H locs hP hS hr
                    · have hr := ite_n hr c_71
                      refine lv_aload_n hx hb dX7_happens_124 rfl (lv_at hl 0 rfl) ?_
                      refine va_get (D := (dC, dI)) (ci := 6) (v := .ref a_o_g) (C := RX7) (T := TX7) (N := 15) hx hb hts iX7 hown hK hP 0 rfl rfl 0 (by decide) (hts (.fieldLink RX7 11 "PascalRowsModel" "g" "[I") (List.mem_of_getElem? (i := 1) rfl)) (fun _ h9 => h9) rfl dX7_happens_125 ?_
                      refine lv_iconst (v := (5 : Int32)) hx hb dX7_happens_128 (by decide) ?_
                      refine lv_iload_n hx hb dX7_happens_129 rfl (lv_at hl 1 rfl) ?_
                      refine lv_iadd hx hb dX7_happens_130 ?_
                      refine lv_aload_n hx hb dX7_happens_131 rfl (lv_at hl 0 rfl) ?_
                      refine va_get (D := (dC, dI)) (ci := 6) (v := .ref a_o_g) (C := RX7) (T := TX7) (N := 15) hx hb hts iX7 hown hK hP 0 rfl rfl 0 (by decide) (hts (.fieldLink RX7 11 "PascalRowsModel" "g" "[I") (List.mem_of_getElem? (i := 1) rfl)) (fun _ h9 => h9) rfl dX7_happens_132 ?_
                      refine lv_bipush (v := (7 : Int32)) hx hb dX7_happens_135 (by decide) ?_
                      refine lv_iload_n hx hb dX7_happens_137 rfl (lv_at hl 1 rfl) ?_
                      refine lv_iadd hx hb dX7_happens_138 ?_
                      obtain ⟨g_72, eg_72, hg_72, hr⟩ := rd_e hr
                      refine va_iald hx hb hK hP 1 0 rfl rfl hg_72 dX7_happens_139 ?_
                      refine tp_ eg_72 ?_
                      obtain ⟨w_73, ew_73, hw_73, hr⟩ := wr_e hr
                      refine va_iast hx hb hK hP (hD.fst rfl) hS 1 0 rfl rfl hw_73 dX7_happens_140 (fun H locs hP _ hS => ?_)
                      rw [← ew_73] at hP
                      have hP : va_P (dC, dI) vwCl [(a_o, .inr (6, [.ref a_o_g, .ref a_o_kept, .ref a_o_was, .int o_isKept, .ref a_o_triangle, .int o_takenBy, .ref a_o_text, .int o_fed, .int o_place, .int o_letter, .int o_first, .int o_second, .ref a_o_sort, .ref a_o_size, .ref a_o_items])), (a_o_g, .inl (cI, 64, .inl w_73))] H := hP
                      refine lv_iinc (v := (v3_112 + (1 : Int32))) (lv' := [(3, .int (v3_112 + (1 : Int32))), (0, .ref a_o)]) hx hb dX7_happens_141 hl (k := 1) rfl (congrArg (fun z => v3_112 + z) (by decide)) (by decide) rfl (fun ls hl => ?_)
                      refine lv_goto (tgt := 112) hx hb dX7_happens_144 (by decide) ?_
                      exact ih (v3_112 + (1 : Int32)) w_73 ls (lv_sub hl [1, 0] rfl) H locs hP hS hr
                refine hL112  _ (fun xc_o_g_112 ls hl H locs hP hS hr => ?_) 5000 ((2 : Int32) * p1) w_69 ls (lv_sub hl [1, 0] rfl) H locs hP hS hr
                obtain rfl := Option.some.inj hr
                exact hret H locs _ hP hS (fun Qc free hq hf => W.vret hx hb hrt hq hf dX7_happens_147 hlocks)
        · have hr := ite_p hr c_52
          refine lv_aload_n hx hb dX7_happens_52 rfl (lv_at hl 0 rfl) ?_
          refine va_get (D := (dC, dI)) (ci := 6) (v := .ref a_o_g) (C := RX7) (T := TX7) (N := 15) hx hb hts iX7 hown hK hP 0 rfl rfl 0 (by decide) (hts (.fieldLink RX7 11 "PascalRowsModel" "g" "[I") (List.mem_of_getElem? (i := 1) rfl)) (fun _ h9 => h9) rfl dX7_happens_53 ?_
          refine lv_iconst (v := (1 : Int32)) hx hb dX7_happens_56 (by decide) ?_
          refine lv_iload_n hx hb dX7_happens_57 rfl (lv_at hl 2 rfl) ?_
          obtain ⟨w_74, ew_74, hw_74, hr⟩ := wr_e hr
          refine va_iast hx hb hK hP (hD.fst rfl) hS 1 0 rfl rfl hw_74 dX7_happens_58 (fun H locs hP _ hS => ?_)
          rw [← ew_74] at hP
          have hP : va_P (dC, dI) vwCl [(a_o, .inr (6, [.ref a_o_g, .ref a_o_kept, .ref a_o_was, .int o_isKept, .ref a_o_triangle, .int o_takenBy, .ref a_o_text, .int o_fed, .int o_place, .int o_letter, .int o_first, .int o_second, .ref a_o_sort, .ref a_o_size, .ref a_o_items])), (a_o_g, .inl (cI, 64, .inl w_74))] H := hP
          refine lv_iload_n hx hb dX7_happens_59 rfl (lv_at hl 1 rfl) ?_
          refine lv_iconst (v := (2 : Int32)) hx hb dX7_happens_60 (by decide) ?_
          refine lv_icmp_ne (tgt := 83) hx hb dX7_happens_61 (by decide) (fun c_75 => ?_) (fun c_75 => ?_)
          · have hr := ite_n hr c_75
            refine lv_iload_n hx hb dX7_happens_83 rfl (lv_at hl 1 rfl) ?_
            refine lv_iconst (v := (3 : Int32)) hx hb dX7_happens_84 (by decide) ?_
            refine lv_icmp_ne (tgt := 147) hx hb dX7_happens_85 (by decide) (fun c_76 => ?_) (fun c_76 => ?_)
            · have hr := ite_n hr c_76
              obtain rfl := Option.some.inj hr
              exact hret H locs _ hP hS (fun Qc free hq hf => W.vret hx hb hrt hq hf dX7_happens_147 hlocks)
            · have hr := ite_p hr c_76
              refine lv_iload_n hx hb dX7_happens_88 rfl (lv_at hl 2 rfl) ?_
              refine lv_aload_n hx hb dX7_happens_89 rfl (lv_at hl 0 rfl) ?_
              refine va_get (D := (dC, dI)) (ci := 6) (v := .ref a_o_g) (C := RX7) (T := TX7) (N := 15) hx hb hts iX7 hown hK hP 0 rfl rfl 0 (by decide) (hts (.fieldLink RX7 11 "PascalRowsModel" "g" "[I") (List.mem_of_getElem? (i := 1) rfl)) (fun _ h9 => h9) rfl dX7_happens_90 ?_
              refine lv_iconst (v := (4 : Int32)) hx hb dX7_happens_93 (by decide) ?_
              obtain ⟨g_77, eg_77, hg_77, hr⟩ := rd_e hr
              refine va_iald hx hb hK hP 1 0 rfl rfl hg_77 dX7_happens_94 ?_
              refine tp_ eg_77 ?_
              refine lv_icmp_ge (tgt := 147) hx hb dX7_happens_95 (by decide) (fun c_78 => ?_) (fun c_78 => ?_)
              · have hr := ite_p hr c_78
                obtain rfl := Option.some.inj hr
                exact hret H locs _ hP hS (fun Qc free hq hf => W.vret hx hb hrt hq hf dX7_happens_147 hlocks)
              · have hr := ite_n hr c_78
                refine lv_aload_n hx hb dX7_happens_98 rfl (lv_at hl 0 rfl) ?_
                refine va_get (D := (dC, dI)) (ci := 6) (v := .ref a_o_g) (C := RX7) (T := TX7) (N := 15) hx hb hts iX7 hown hK hP 0 rfl rfl 0 (by decide) (hts (.fieldLink RX7 11 "PascalRowsModel" "g" "[I") (List.mem_of_getElem? (i := 1) rfl)) (fun _ h9 => h9) rfl dX7_happens_99 ?_
                refine lv_iconst (v := (4 : Int32)) hx hb dX7_happens_102 (by decide) ?_
                refine lv_dup2_11 hx hb dX7_happens_103 rfl rfl ?_
                obtain ⟨g_79, eg_79, hg_79, hr⟩ := rd_e hr
                refine va_iald hx hb hK hP 1 0 rfl rfl hg_79 dX7_happens_104 ?_
                refine tp_ eg_79 ?_
                refine lv_iconst (v := (1 : Int32)) hx hb dX7_happens_105 (by decide) ?_
                refine lv_isub hx hb dX7_happens_106 ?_
                obtain ⟨w_80, ew_80, hw_80, hr⟩ := wr_e hr
                refine va_iast hx hb hK hP (hD.fst rfl) hS 1 0 rfl rfl hw_80 dX7_happens_107 (fun H locs hP _ hS => ?_)
                rw [← ew_80] at hP
                have hP : va_P (dC, dI) vwCl [(a_o, .inr (6, [.ref a_o_g, .ref a_o_kept, .ref a_o_was, .int o_isKept, .ref a_o_triangle, .int o_takenBy, .ref a_o_text, .int o_fed, .int o_place, .int o_letter, .int o_first, .int o_second, .ref a_o_sort, .ref a_o_size, .ref a_o_items])), (a_o_g, .inl (cI, 64, .inl w_80))] H := hP
                refine lv_iconst (v := (2 : Int32)) hx hb dX7_happens_108 (by decide) ?_
                refine lv_iload_n hx hb dX7_happens_109 rfl (lv_at hl 2 rfl) ?_
                refine lv_imul hx hb dX7_happens_110 ?_
                refine lv_istore_n (lv' := [(3, .int ((2 : Int32) * p1)), (0, .ref a_o), (1, .int p0), (2, .int p1)]) hx hb dX7_happens_111 rfl hl (by decide) rfl (fun ls hl => ?_)
                have hL112 : ∀  (k_112 : (Nat → Int32) → Option ((Nat → Int32))) (hk : ∀ (xc_o_g_112 : Nat → Int32) (ls : Array Slot), lv_has ls 4 [] → ∀ (H : Heap) (locs : List Loc), va_P (dC, dI) vwCl [(a_o, .inr (6, [.ref a_o_g, .ref a_o_kept, .ref a_o_was, .int o_isKept, .ref a_o_triangle, .int o_takenBy, .ref a_o_text, .int o_fed, .int o_place, .int o_letter, .int o_first, .int o_second, .ref a_o_sort, .ref a_o_size, .ref a_o_items])), (a_o_g, .inl (cI, 64, .inl xc_o_g_112))] H → va_S A s.heap H locs →  k_112 xc_o_g_112 = some r → W p l e rmX7_happens s m args below meth c H locs 0 0 Q (F0 m 147 ls [])) (fuel : Nat) (v3_112 : Int32) (o_g_112 : Nat → Int32) (ls : Array Slot), lv_has ls 4 [(0, .ref a_o), (3, .int v3_112)] → ∀ (H : Heap) (locs : List Loc), va_P (dC, dI) vwCl [(a_o, .inr (6, [.ref a_o_g, .ref a_o_kept, .ref a_o_was, .int o_isKept, .ref a_o_triangle, .int o_takenBy, .ref a_o_text, .int o_fed, .int o_place, .int o_letter, .int o_first, .int o_second, .ref a_o_sort, .ref a_o_size, .ref a_o_items])), (a_o_g, .inl (cI, 64, .inl o_g_112))] H → va_S A s.heap H locs → f_X7_happens_L112 k_112  fuel v3_112 o_g_112 = some r → W p l e rmX7_happens s m args below meth c H locs 0 0 Q (F0 m 112 ls []) := by
                  intro k_112 hk fuel
                  induction fuel with
                  | zero =>
                    intro v3_112 o_g_112 ls hl H locs hP hS hr
                    rw [f_X7_happens_L112_z] at hr
                    cases hr
                  | succ fuel ih =>
                    intro v3_112 o_g_112 ls hl H locs hP hS hr
                    rw [f_X7_happens_L112_s] at hr
                    refine lv_iload_n hx hb dX7_happens_112 rfl (lv_at hl 1 rfl) ?_
                    refine lv_iconst (v := (2 : Int32)) hx hb dX7_happens_113 (by decide) ?_
                    refine lv_aload_n hx hb dX7_happens_114 rfl (lv_at hl 0 rfl) ?_
                    refine va_get (D := (dC, dI)) (ci := 6) (v := .ref a_o_g) (C := RX7) (T := TX7) (N := 15) hx hb hts iX7 hown hK hP 0 rfl rfl 0 (by decide) (hts (.fieldLink RX7 11 "PascalRowsModel" "g" "[I") (List.mem_of_getElem? (i := 1) rfl)) (fun _ h9 => h9) rfl dX7_happens_115 ?_
                    refine lv_iconst (v := (4 : Int32)) hx hb dX7_happens_118 (by decide) ?_
                    obtain ⟨g_81, eg_81, hg_81, hr⟩ := rd_e hr
                    refine va_iald hx hb hK hP 1 0 rfl rfl hg_81 dX7_happens_119 ?_
                    refine tp_ eg_81 ?_
                    refine lv_imul hx hb dX7_happens_120 ?_
                    refine lv_icmp_ge (tgt := 147) hx hb dX7_happens_121 (by decide) (fun c_82 => ?_) (fun c_82 => ?_)
                    · have hr := ite_p hr c_82
                      exact hk o_g_112 ls (lv_sub hl [] rfl) H locs hP hS hr
                    · have hr := ite_n hr c_82
                      refine lv_aload_n hx hb dX7_happens_124 rfl (lv_at hl 0 rfl) ?_
                      refine va_get (D := (dC, dI)) (ci := 6) (v := .ref a_o_g) (C := RX7) (T := TX7) (N := 15) hx hb hts iX7 hown hK hP 0 rfl rfl 0 (by decide) (hts (.fieldLink RX7 11 "PascalRowsModel" "g" "[I") (List.mem_of_getElem? (i := 1) rfl)) (fun _ h9 => h9) rfl dX7_happens_125 ?_
                      refine lv_iconst (v := (5 : Int32)) hx hb dX7_happens_128 (by decide) ?_
                      refine lv_iload_n hx hb dX7_happens_129 rfl (lv_at hl 1 rfl) ?_
                      refine lv_iadd hx hb dX7_happens_130 ?_
                      refine lv_aload_n hx hb dX7_happens_131 rfl (lv_at hl 0 rfl) ?_
                      refine va_get (D := (dC, dI)) (ci := 6) (v := .ref a_o_g) (C := RX7) (T := TX7) (N := 15) hx hb hts iX7 hown hK hP 0 rfl rfl 0 (by decide) (hts (.fieldLink RX7 11 "PascalRowsModel" "g" "[I") (List.mem_of_getElem? (i := 1) rfl)) (fun _ h9 => h9) rfl dX7_happens_132 ?_
                      refine lv_bipush (v := (7 : Int32)) hx hb dX7_happens_135 (by decide) ?_
                      refine lv_iload_n hx hb dX7_happens_137 rfl (lv_at hl 1 rfl) ?_
                      refine lv_iadd hx hb dX7_happens_138 ?_
                      obtain ⟨g_83, eg_83, hg_83, hr⟩ := rd_e hr
                      refine va_iald hx hb hK hP 1 0 rfl rfl hg_83 dX7_happens_139 ?_
                      refine tp_ eg_83 ?_
                      obtain ⟨w_84, ew_84, hw_84, hr⟩ := wr_e hr
                      refine va_iast hx hb hK hP (hD.fst rfl) hS 1 0 rfl rfl hw_84 dX7_happens_140 (fun H locs hP _ hS => ?_)
                      rw [← ew_84] at hP
                      have hP : va_P (dC, dI) vwCl [(a_o, .inr (6, [.ref a_o_g, .ref a_o_kept, .ref a_o_was, .int o_isKept, .ref a_o_triangle, .int o_takenBy, .ref a_o_text, .int o_fed, .int o_place, .int o_letter, .int o_first, .int o_second, .ref a_o_sort, .ref a_o_size, .ref a_o_items])), (a_o_g, .inl (cI, 64, .inl w_84))] H := hP
                      refine lv_iinc (v := (v3_112 + (1 : Int32))) (lv' := [(3, .int (v3_112 + (1 : Int32))), (0, .ref a_o)]) hx hb dX7_happens_141 hl (k := 1) rfl (congrArg (fun z => v3_112 + z) (by decide)) (by decide) rfl (fun ls hl => ?_)
                      refine lv_goto (tgt := 112) hx hb dX7_happens_144 (by decide) ?_
                      exact ih (v3_112 + (1 : Int32)) w_84 ls (lv_sub hl [1, 0] rfl) H locs hP hS hr
                refine hL112  _ (fun xc_o_g_112 ls hl H locs hP hS hr => ?_) 5000 ((2 : Int32) * p1) w_80 ls (lv_sub hl [1, 0] rfl) H locs hP hS hr
                obtain rfl := Option.some.inj hr
                exact hret H locs _ hP hS (fun Qc free hq hf => W.vret hx hb hrt hq hf dX7_happens_147 hlocks)
          · have hr := ite_p hr c_75
            refine lv_aload_n hx hb dX7_happens_64 rfl (lv_at hl 0 rfl) ?_
            refine va_get (D := (dC, dI)) (ci := 6) (v := .ref a_o_g) (C := RX7) (T := TX7) (N := 15) hx hb hts iX7 hown hK hP 0 rfl rfl 0 (by decide) (hts (.fieldLink RX7 11 "PascalRowsModel" "g" "[I") (List.mem_of_getElem? (i := 1) rfl)) (fun _ h9 => h9) rfl dX7_happens_65 ?_
            refine lv_iconst (v := (2 : Int32)) hx hb dX7_happens_68 (by decide) ?_
            refine lv_bipush (v := (127 : Int32)) hx hb dX7_happens_69 (by decide) ?_
            refine lv_aload_n hx hb dX7_happens_71 rfl (lv_at hl 0 rfl) ?_
            refine va_get (D := (dC, dI)) (ci := 6) (v := .ref a_o_g) (C := RX7) (T := TX7) (N := 15) hx hb hts iX7 hown hK hP 0 rfl rfl 0 (by decide) (hts (.fieldLink RX7 11 "PascalRowsModel" "g" "[I") (List.mem_of_getElem? (i := 1) rfl)) (fun _ h9 => h9) rfl dX7_happens_72 ?_
            refine lv_iconst (v := (2 : Int32)) hx hb dX7_happens_75 (by decide) ?_
            obtain ⟨g_85, eg_85, hg_85, hr⟩ := rd_e hr
            refine va_iald hx hb hK hP 1 0 rfl rfl hg_85 dX7_happens_76 ?_
            refine tp_ eg_85 ?_
            refine lv_iload_n hx hb dX7_happens_77 rfl (lv_at hl 2 rfl) ?_
            refine lv_iadd hx hb dX7_happens_78 ?_
            refine va_mmin hx hb (hml.trans hl.1.symm) hown (hts (.methodLink RX7 195 Lib.Math.min.name) (List.mem_of_getElem? (i := 2) rfl)) (hts (.static Lib.Math.min.name) (List.mem_of_getElem? (i := 3) rfl)) (hts (.initialized "java/lang/Math") (List.mem_of_getElem? (i := 4) rfl)) (hts (.code Lib.Math.min.name Lib.Math.min.code 2 (some .int)) (List.mem_of_getElem? (i := 5) rfl)) (Nat.le_of_ble_eq_true rfl) (Nat.le_of_ble_eq_true rfl) (Nat.zero_le _) (Nat.zero_le _) dX7_happens_79 ?_
            obtain ⟨w_86, ew_86, hw_86, hr⟩ := wr_e hr
            refine va_iast hx hb hK hP (hD.fst rfl) hS 1 0 rfl rfl hw_86 dX7_happens_82 (fun H locs hP _ hS => ?_)
            rw [← ew_86] at hP
            have hP : va_P (dC, dI) vwCl [(a_o, .inr (6, [.ref a_o_g, .ref a_o_kept, .ref a_o_was, .int o_isKept, .ref a_o_triangle, .int o_takenBy, .ref a_o_text, .int o_fed, .int o_place, .int o_letter, .int o_first, .int o_second, .ref a_o_sort, .ref a_o_size, .ref a_o_items])), (a_o_g, .inl (cI, 64, .inl w_86))] H := hP
            refine lv_iload_n hx hb dX7_happens_83 rfl (lv_at hl 1 rfl) ?_
            refine lv_iconst (v := (3 : Int32)) hx hb dX7_happens_84 (by decide) ?_
            refine lv_icmp_ne (tgt := 147) hx hb dX7_happens_85 (by decide) (fun c_87 => ?_) (fun c_87 => ?_)
            · have hr := ite_n hr c_87
              obtain rfl := Option.some.inj hr
              exact hret H locs _ hP hS (fun Qc free hq hf => W.vret hx hb hrt hq hf dX7_happens_147 hlocks)
            · have hr := ite_p hr c_87
              refine lv_iload_n hx hb dX7_happens_88 rfl (lv_at hl 2 rfl) ?_
              refine lv_aload_n hx hb dX7_happens_89 rfl (lv_at hl 0 rfl) ?_
              refine va_get (D := (dC, dI)) (ci := 6) (v := .ref a_o_g) (C := RX7) (T := TX7) (N := 15) hx hb hts iX7 hown hK hP 0 rfl rfl 0 (by decide) (hts (.fieldLink RX7 11 "PascalRowsModel" "g" "[I") (List.mem_of_getElem? (i := 1) rfl)) (fun _ h9 => h9) rfl dX7_happens_90 ?_
              refine lv_iconst (v := (4 : Int32)) hx hb dX7_happens_93 (by decide) ?_
              obtain ⟨g_88, eg_88, hg_88, hr⟩ := rd_e hr
              refine va_iald hx hb hK hP 1 0 rfl rfl hg_88 dX7_happens_94 ?_
              refine tp_ eg_88 ?_
              refine lv_icmp_ge (tgt := 147) hx hb dX7_happens_95 (by decide) (fun c_89 => ?_) (fun c_89 => ?_)
              · have hr := ite_p hr c_89
                obtain rfl := Option.some.inj hr
                exact hret H locs _ hP hS (fun Qc free hq hf => W.vret hx hb hrt hq hf dX7_happens_147 hlocks)
              · have hr := ite_n hr c_89
                refine lv_aload_n hx hb dX7_happens_98 rfl (lv_at hl 0 rfl) ?_
                refine va_get (D := (dC, dI)) (ci := 6) (v := .ref a_o_g) (C := RX7) (T := TX7) (N := 15) hx hb hts iX7 hown hK hP 0 rfl rfl 0 (by decide) (hts (.fieldLink RX7 11 "PascalRowsModel" "g" "[I") (List.mem_of_getElem? (i := 1) rfl)) (fun _ h9 => h9) rfl dX7_happens_99 ?_
                refine lv_iconst (v := (4 : Int32)) hx hb dX7_happens_102 (by decide) ?_
                refine lv_dup2_11 hx hb dX7_happens_103 rfl rfl ?_
                obtain ⟨g_90, eg_90, hg_90, hr⟩ := rd_e hr
                refine va_iald hx hb hK hP 1 0 rfl rfl hg_90 dX7_happens_104 ?_
                refine tp_ eg_90 ?_
                refine lv_iconst (v := (1 : Int32)) hx hb dX7_happens_105 (by decide) ?_
                refine lv_isub hx hb dX7_happens_106 ?_
                obtain ⟨w_91, ew_91, hw_91, hr⟩ := wr_e hr
                refine va_iast hx hb hK hP (hD.fst rfl) hS 1 0 rfl rfl hw_91 dX7_happens_107 (fun H locs hP _ hS => ?_)
                rw [← ew_91] at hP
                have hP : va_P (dC, dI) vwCl [(a_o, .inr (6, [.ref a_o_g, .ref a_o_kept, .ref a_o_was, .int o_isKept, .ref a_o_triangle, .int o_takenBy, .ref a_o_text, .int o_fed, .int o_place, .int o_letter, .int o_first, .int o_second, .ref a_o_sort, .ref a_o_size, .ref a_o_items])), (a_o_g, .inl (cI, 64, .inl w_91))] H := hP
                refine lv_iconst (v := (2 : Int32)) hx hb dX7_happens_108 (by decide) ?_
                refine lv_iload_n hx hb dX7_happens_109 rfl (lv_at hl 2 rfl) ?_
                refine lv_imul hx hb dX7_happens_110 ?_
                refine lv_istore_n (lv' := [(3, .int ((2 : Int32) * p1)), (0, .ref a_o), (1, .int p0), (2, .int p1)]) hx hb dX7_happens_111 rfl hl (by decide) rfl (fun ls hl => ?_)
                have hL112 : ∀  (k_112 : (Nat → Int32) → Option ((Nat → Int32))) (hk : ∀ (xc_o_g_112 : Nat → Int32) (ls : Array Slot), lv_has ls 4 [] → ∀ (H : Heap) (locs : List Loc), va_P (dC, dI) vwCl [(a_o, .inr (6, [.ref a_o_g, .ref a_o_kept, .ref a_o_was, .int o_isKept, .ref a_o_triangle, .int o_takenBy, .ref a_o_text, .int o_fed, .int o_place, .int o_letter, .int o_first, .int o_second, .ref a_o_sort, .ref a_o_size, .ref a_o_items])), (a_o_g, .inl (cI, 64, .inl xc_o_g_112))] H → va_S A s.heap H locs →  k_112 xc_o_g_112 = some r → W p l e rmX7_happens s m args below meth c H locs 0 0 Q (F0 m 147 ls [])) (fuel : Nat) (v3_112 : Int32) (o_g_112 : Nat → Int32) (ls : Array Slot), lv_has ls 4 [(0, .ref a_o), (3, .int v3_112)] → ∀ (H : Heap) (locs : List Loc), va_P (dC, dI) vwCl [(a_o, .inr (6, [.ref a_o_g, .ref a_o_kept, .ref a_o_was, .int o_isKept, .ref a_o_triangle, .int o_takenBy, .ref a_o_text, .int o_fed, .int o_place, .int o_letter, .int o_first, .int o_second, .ref a_o_sort, .ref a_o_size, .ref a_o_items])), (a_o_g, .inl (cI, 64, .inl o_g_112))] H → va_S A s.heap H locs → f_X7_happens_L112 k_112  fuel v3_112 o_g_112 = some r → W p l e rmX7_happens s m args below meth c H locs 0 0 Q (F0 m 112 ls []) := by
                  intro k_112 hk fuel
                  induction fuel with
                  | zero =>
                    intro v3_112 o_g_112 ls hl H locs hP hS hr
                    rw [f_X7_happens_L112_z] at hr
                    cases hr
                  | succ fuel ih =>
                    intro v3_112 o_g_112 ls hl H locs hP hS hr
                    rw [f_X7_happens_L112_s] at hr
                    refine lv_iload_n hx hb dX7_happens_112 rfl (lv_at hl 1 rfl) ?_
                    refine lv_iconst (v := (2 : Int32)) hx hb dX7_happens_113 (by decide) ?_
                    refine lv_aload_n hx hb dX7_happens_114 rfl (lv_at hl 0 rfl) ?_
                    refine va_get (D := (dC, dI)) (ci := 6) (v := .ref a_o_g) (C := RX7) (T := TX7) (N := 15) hx hb hts iX7 hown hK hP 0 rfl rfl 0 (by decide) (hts (.fieldLink RX7 11 "PascalRowsModel" "g" "[I") (List.mem_of_getElem? (i := 1) rfl)) (fun _ h9 => h9) rfl dX7_happens_115 ?_
                    refine lv_iconst (v := (4 : Int32)) hx hb dX7_happens_118 (by decide) ?_
                    obtain ⟨g_92, eg_92, hg_92, hr⟩ := rd_e hr
                    refine va_iald hx hb hK hP 1 0 rfl rfl hg_92 dX7_happens_119 ?_
                    refine tp_ eg_92 ?_
                    refine lv_imul hx hb dX7_happens_120 ?_
                    refine lv_icmp_ge (tgt := 147) hx hb dX7_happens_121 (by decide) (fun c_93 => ?_) (fun c_93 => ?_)
                    · have hr := ite_p hr c_93
                      exact hk o_g_112 ls (lv_sub hl [] rfl) H locs hP hS hr
                    · have hr := ite_n hr c_93
                      refine lv_aload_n hx hb dX7_happens_124 rfl (lv_at hl 0 rfl) ?_
                      refine va_get (D := (dC, dI)) (ci := 6) (v := .ref a_o_g) (C := RX7) (T := TX7) (N := 15) hx hb hts iX7 hown hK hP 0 rfl rfl 0 (by decide) (hts (.fieldLink RX7 11 "PascalRowsModel" "g" "[I") (List.mem_of_getElem? (i := 1) rfl)) (fun _ h9 => h9) rfl dX7_happens_125 ?_
                      refine lv_iconst (v := (5 : Int32)) hx hb dX7_happens_128 (by decide) ?_
                      refine lv_iload_n hx hb dX7_happens_129 rfl (lv_at hl 1 rfl) ?_
                      refine lv_iadd hx hb dX7_happens_130 ?_
                      refine lv_aload_n hx hb dX7_happens_131 rfl (lv_at hl 0 rfl) ?_
                      refine va_get (D := (dC, dI)) (ci := 6) (v := .ref a_o_g) (C := RX7) (T := TX7) (N := 15) hx hb hts iX7 hown hK hP 0 rfl rfl 0 (by decide) (hts (.fieldLink RX7 11 "PascalRowsModel" "g" "[I") (List.mem_of_getElem? (i := 1) rfl)) (fun _ h9 => h9) rfl dX7_happens_132 ?_
                      refine lv_bipush (v := (7 : Int32)) hx hb dX7_happens_135 (by decide) ?_
                      refine lv_iload_n hx hb dX7_happens_137 rfl (lv_at hl 1 rfl) ?_
                      refine lv_iadd hx hb dX7_happens_138 ?_
                      obtain ⟨g_94, eg_94, hg_94, hr⟩ := rd_e hr
                      refine va_iald hx hb hK hP 1 0 rfl rfl hg_94 dX7_happens_139 ?_
                      refine tp_ eg_94 ?_
                      obtain ⟨w_95, ew_95, hw_95, hr⟩ := wr_e hr
                      refine va_iast hx hb hK hP (hD.fst rfl) hS 1 0 rfl rfl hw_95 dX7_happens_140 (fun H locs hP _ hS => ?_)
                      rw [← ew_95] at hP
                      have hP : va_P (dC, dI) vwCl [(a_o, .inr (6, [.ref a_o_g, .ref a_o_kept, .ref a_o_was, .int o_isKept, .ref a_o_triangle, .int o_takenBy, .ref a_o_text, .int o_fed, .int o_place, .int o_letter, .int o_first, .int o_second, .ref a_o_sort, .ref a_o_size, .ref a_o_items])), (a_o_g, .inl (cI, 64, .inl w_95))] H := hP
                      refine lv_iinc (v := (v3_112 + (1 : Int32))) (lv' := [(3, .int (v3_112 + (1 : Int32))), (0, .ref a_o)]) hx hb dX7_happens_141 hl (k := 1) rfl (congrArg (fun z => v3_112 + z) (by decide)) (by decide) rfl (fun ls hl => ?_)
                      refine lv_goto (tgt := 112) hx hb dX7_happens_144 (by decide) ?_
                      exact ih (v3_112 + (1 : Int32)) w_95 ls (lv_sub hl [1, 0] rfl) H locs hP hS hr
                refine hL112  _ (fun xc_o_g_112 ls hl H locs hP hS hr => ?_) 5000 ((2 : Int32) * p1) w_91 ls (lv_sub hl [1, 0] rfl) H locs hP hS hr
                obtain rfl := Option.some.inj hr
                exact hret H locs _ hP hS (fun Qc free hq hf => W.vret hx hb hrt hq hf dX7_happens_147 hlocks)
      · have hr := ite_p hr c_49
        refine lv_iconst (v := (2 : Int32)) hx hb dX7_happens_34 (by decide) ?_
        refine lv_goto (tgt := 46) hx hb dX7_happens_35 (by decide) ?_
        obtain ⟨w_96, ew_96, hw_96, hr⟩ := wr_e hr
        refine va_iast hx hb hK hP (hD.fst rfl) hS 1 0 rfl rfl hw_96 dX7_happens_46 (fun H locs hP _ hS => ?_)
        rw [← ew_96] at hP
        have hP : va_P (dC, dI) vwCl [(a_o, .inr (6, [.ref a_o_g, .ref a_o_kept, .ref a_o_was, .int o_isKept, .ref a_o_triangle, .int o_takenBy, .ref a_o_text, .int o_fed, .int o_place, .int o_letter, .int o_first, .int o_second, .ref a_o_sort, .ref a_o_size, .ref a_o_items])), (a_o_g, .inl (cI, 64, .inl w_96))] H := hP
        refine lv_iload_n hx hb dX7_happens_47 rfl (lv_at hl 1 rfl) ?_
        refine lv_iconst (v := (1 : Int32)) hx hb dX7_happens_48 (by decide) ?_
        refine lv_icmp_ne (tgt := 59) hx hb dX7_happens_49 (by decide) (fun c_97 => ?_) (fun c_97 => ?_)
        · have hr := ite_n hr c_97
          refine lv_iload_n hx hb dX7_happens_59 rfl (lv_at hl 1 rfl) ?_
          refine lv_iconst (v := (2 : Int32)) hx hb dX7_happens_60 (by decide) ?_
          refine lv_icmp_ne (tgt := 83) hx hb dX7_happens_61 (by decide) (fun c_98 => ?_) (fun c_98 => ?_)
          · have hr := ite_n hr c_98
            refine lv_iload_n hx hb dX7_happens_83 rfl (lv_at hl 1 rfl) ?_
            refine lv_iconst (v := (3 : Int32)) hx hb dX7_happens_84 (by decide) ?_
            refine lv_icmp_ne (tgt := 147) hx hb dX7_happens_85 (by decide) (fun c_99 => ?_) (fun c_99 => ?_)
            · have hr := ite_n hr c_99
              obtain rfl := Option.some.inj hr
              exact hret H locs _ hP hS (fun Qc free hq hf => W.vret hx hb hrt hq hf dX7_happens_147 hlocks)
            · have hr := ite_p hr c_99
              refine lv_iload_n hx hb dX7_happens_88 rfl (lv_at hl 2 rfl) ?_
              refine lv_aload_n hx hb dX7_happens_89 rfl (lv_at hl 0 rfl) ?_
              refine va_get (D := (dC, dI)) (ci := 6) (v := .ref a_o_g) (C := RX7) (T := TX7) (N := 15) hx hb hts iX7 hown hK hP 0 rfl rfl 0 (by decide) (hts (.fieldLink RX7 11 "PascalRowsModel" "g" "[I") (List.mem_of_getElem? (i := 1) rfl)) (fun _ h9 => h9) rfl dX7_happens_90 ?_
              refine lv_iconst (v := (4 : Int32)) hx hb dX7_happens_93 (by decide) ?_
              obtain ⟨g_100, eg_100, hg_100, hr⟩ := rd_e hr
              refine va_iald hx hb hK hP 1 0 rfl rfl hg_100 dX7_happens_94 ?_
              refine tp_ eg_100 ?_
              refine lv_icmp_ge (tgt := 147) hx hb dX7_happens_95 (by decide) (fun c_101 => ?_) (fun c_101 => ?_)
              · have hr := ite_p hr c_101
                obtain rfl := Option.some.inj hr
                exact hret H locs _ hP hS (fun Qc free hq hf => W.vret hx hb hrt hq hf dX7_happens_147 hlocks)
              · have hr := ite_n hr c_101
                refine lv_aload_n hx hb dX7_happens_98 rfl (lv_at hl 0 rfl) ?_
                refine va_get (D := (dC, dI)) (ci := 6) (v := .ref a_o_g) (C := RX7) (T := TX7) (N := 15) hx hb hts iX7 hown hK hP 0 rfl rfl 0 (by decide) (hts (.fieldLink RX7 11 "PascalRowsModel" "g" "[I") (List.mem_of_getElem? (i := 1) rfl)) (fun _ h9 => h9) rfl dX7_happens_99 ?_
                refine lv_iconst (v := (4 : Int32)) hx hb dX7_happens_102 (by decide) ?_
                refine lv_dup2_11 hx hb dX7_happens_103 rfl rfl ?_
                obtain ⟨g_102, eg_102, hg_102, hr⟩ := rd_e hr
                refine va_iald hx hb hK hP 1 0 rfl rfl hg_102 dX7_happens_104 ?_
                refine tp_ eg_102 ?_
                refine lv_iconst (v := (1 : Int32)) hx hb dX7_happens_105 (by decide) ?_
                refine lv_isub hx hb dX7_happens_106 ?_
                obtain ⟨w_103, ew_103, hw_103, hr⟩ := wr_e hr
                refine va_iast hx hb hK hP (hD.fst rfl) hS 1 0 rfl rfl hw_103 dX7_happens_107 (fun H locs hP _ hS => ?_)
                rw [← ew_103] at hP
                have hP : va_P (dC, dI) vwCl [(a_o, .inr (6, [.ref a_o_g, .ref a_o_kept, .ref a_o_was, .int o_isKept, .ref a_o_triangle, .int o_takenBy, .ref a_o_text, .int o_fed, .int o_place, .int o_letter, .int o_first, .int o_second, .ref a_o_sort, .ref a_o_size, .ref a_o_items])), (a_o_g, .inl (cI, 64, .inl w_103))] H := hP
                refine lv_iconst (v := (2 : Int32)) hx hb dX7_happens_108 (by decide) ?_
                refine lv_iload_n hx hb dX7_happens_109 rfl (lv_at hl 2 rfl) ?_
                refine lv_imul hx hb dX7_happens_110 ?_
                refine lv_istore_n (lv' := [(3, .int ((2 : Int32) * p1)), (0, .ref a_o), (1, .int p0), (2, .int p1)]) hx hb dX7_happens_111 rfl hl (by decide) rfl (fun ls hl => ?_)
                have hL112 : ∀  (k_112 : (Nat → Int32) → Option ((Nat → Int32))) (hk : ∀ (xc_o_g_112 : Nat → Int32) (ls : Array Slot), lv_has ls 4 [] → ∀ (H : Heap) (locs : List Loc), va_P (dC, dI) vwCl [(a_o, .inr (6, [.ref a_o_g, .ref a_o_kept, .ref a_o_was, .int o_isKept, .ref a_o_triangle, .int o_takenBy, .ref a_o_text, .int o_fed, .int o_place, .int o_letter, .int o_first, .int o_second, .ref a_o_sort, .ref a_o_size, .ref a_o_items])), (a_o_g, .inl (cI, 64, .inl xc_o_g_112))] H → va_S A s.heap H locs →  k_112 xc_o_g_112 = some r → W p l e rmX7_happens s m args below meth c H locs 0 0 Q (F0 m 147 ls [])) (fuel : Nat) (v3_112 : Int32) (o_g_112 : Nat → Int32) (ls : Array Slot), lv_has ls 4 [(0, .ref a_o), (3, .int v3_112)] → ∀ (H : Heap) (locs : List Loc), va_P (dC, dI) vwCl [(a_o, .inr (6, [.ref a_o_g, .ref a_o_kept, .ref a_o_was, .int o_isKept, .ref a_o_triangle, .int o_takenBy, .ref a_o_text, .int o_fed, .int o_place, .int o_letter, .int o_first, .int o_second, .ref a_o_sort, .ref a_o_size, .ref a_o_items])), (a_o_g, .inl (cI, 64, .inl o_g_112))] H → va_S A s.heap H locs → f_X7_happens_L112 k_112  fuel v3_112 o_g_112 = some r → W p l e rmX7_happens s m args below meth c H locs 0 0 Q (F0 m 112 ls []) := by
                  intro k_112 hk fuel
                  induction fuel with
                  | zero =>
                    intro v3_112 o_g_112 ls hl H locs hP hS hr
                    rw [f_X7_happens_L112_z] at hr
                    cases hr
                  | succ fuel ih =>
                    intro v3_112 o_g_112 ls hl H locs hP hS hr
                    rw [f_X7_happens_L112_s] at hr
                    refine lv_iload_n hx hb dX7_happens_112 rfl (lv_at hl 1 rfl) ?_
                    refine lv_iconst (v := (2 : Int32)) hx hb dX7_happens_113 (by decide) ?_
                    refine lv_aload_n hx hb dX7_happens_114 rfl (lv_at hl 0 rfl) ?_
                    refine va_get (D := (dC, dI)) (ci := 6) (v := .ref a_o_g) (C := RX7) (T := TX7) (N := 15) hx hb hts iX7 hown hK hP 0 rfl rfl 0 (by decide) (hts (.fieldLink RX7 11 "PascalRowsModel" "g" "[I") (List.mem_of_getElem? (i := 1) rfl)) (fun _ h9 => h9) rfl dX7_happens_115 ?_
                    refine lv_iconst (v := (4 : Int32)) hx hb dX7_happens_118 (by decide) ?_
                    obtain ⟨g_104, eg_104, hg_104, hr⟩ := rd_e hr
                    refine va_iald hx hb hK hP 1 0 rfl rfl hg_104 dX7_happens_119 ?_
                    refine tp_ eg_104 ?_
                    refine lv_imul hx hb dX7_happens_120 ?_
                    refine lv_icmp_ge (tgt := 147) hx hb dX7_happens_121 (by decide) (fun c_105 => ?_) (fun c_105 => ?_)
                    · have hr := ite_p hr c_105
                      exact hk o_g_112 ls (lv_sub hl [] rfl) H locs hP hS hr
                    · have hr := ite_n hr c_105
                      refine lv_aload_n hx hb dX7_happens_124 rfl (lv_at hl 0 rfl) ?_
                      refine va_get (D := (dC, dI)) (ci := 6) (v := .ref a_o_g) (C := RX7) (T := TX7) (N := 15) hx hb hts iX7 hown hK hP 0 rfl rfl 0 (by decide) (hts (.fieldLink RX7 11 "PascalRowsModel" "g" "[I") (List.mem_of_getElem? (i := 1) rfl)) (fun _ h9 => h9) rfl dX7_happens_125 ?_
                      refine lv_iconst (v := (5 : Int32)) hx hb dX7_happens_128 (by decide) ?_
                      refine lv_iload_n hx hb dX7_happens_129 rfl (lv_at hl 1 rfl) ?_
                      refine lv_iadd hx hb dX7_happens_130 ?_
                      refine lv_aload_n hx hb dX7_happens_131 rfl (lv_at hl 0 rfl) ?_
                      refine va_get (D := (dC, dI)) (ci := 6) (v := .ref a_o_g) (C := RX7) (T := TX7) (N := 15) hx hb hts iX7 hown hK hP 0 rfl rfl 0 (by decide) (hts (.fieldLink RX7 11 "PascalRowsModel" "g" "[I") (List.mem_of_getElem? (i := 1) rfl)) (fun _ h9 => h9) rfl dX7_happens_132 ?_
                      refine lv_bipush (v := (7 : Int32)) hx hb dX7_happens_135 (by decide) ?_
                      refine lv_iload_n hx hb dX7_happens_137 rfl (lv_at hl 1 rfl) ?_
                      refine lv_iadd hx hb dX7_happens_138 ?_
                      obtain ⟨g_106, eg_106, hg_106, hr⟩ := rd_e hr
                      refine va_iald hx hb hK hP 1 0 rfl rfl hg_106 dX7_happens_139 ?_
                      refine tp_ eg_106 ?_
                      obtain ⟨w_107, ew_107, hw_107, hr⟩ := wr_e hr
                      refine va_iast hx hb hK hP (hD.fst rfl) hS 1 0 rfl rfl hw_107 dX7_happens_140 (fun H locs hP _ hS => ?_)
                      rw [← ew_107] at hP
                      have hP : va_P (dC, dI) vwCl [(a_o, .inr (6, [.ref a_o_g, .ref a_o_kept, .ref a_o_was, .int o_isKept, .ref a_o_triangle, .int o_takenBy, .ref a_o_text, .int o_fed, .int o_place, .int o_letter, .int o_first, .int o_second, .ref a_o_sort, .ref a_o_size, .ref a_o_items])), (a_o_g, .inl (cI, 64, .inl w_107))] H := hP
                      refine lv_iinc (v := (v3_112 + (1 : Int32))) (lv' := [(3, .int (v3_112 + (1 : Int32))), (0, .ref a_o)]) hx hb dX7_happens_141 hl (k := 1) rfl (congrArg (fun z => v3_112 + z) (by decide)) (by decide) rfl (fun ls hl => ?_)
                      refine lv_goto (tgt := 112) hx hb dX7_happens_144 (by decide) ?_
                      exact ih (v3_112 + (1 : Int32)) w_107 ls (lv_sub hl [1, 0] rfl) H locs hP hS hr
                refine hL112  _ (fun xc_o_g_112 ls hl H locs hP hS hr => ?_) 5000 ((2 : Int32) * p1) w_103 ls (lv_sub hl [1, 0] rfl) H locs hP hS hr
                obtain rfl := Option.some.inj hr
                exact hret H locs _ hP hS (fun Qc free hq hf => W.vret hx hb hrt hq hf dX7_happens_147 hlocks)
          · have hr := ite_p hr c_98
            refine lv_aload_n hx hb dX7_happens_64 rfl (lv_at hl 0 rfl) ?_
            refine va_get (D := (dC, dI)) (ci := 6) (v := .ref a_o_g) (C := RX7) (T := TX7) (N := 15) hx hb hts iX7 hown hK hP 0 rfl rfl 0 (by decide) (hts (.fieldLink RX7 11 "PascalRowsModel" "g" "[I") (List.mem_of_getElem? (i := 1) rfl)) (fun _ h9 => h9) rfl dX7_happens_65 ?_
            refine lv_iconst (v := (2 : Int32)) hx hb dX7_happens_68 (by decide) ?_
            refine lv_bipush (v := (127 : Int32)) hx hb dX7_happens_69 (by decide) ?_
            refine lv_aload_n hx hb dX7_happens_71 rfl (lv_at hl 0 rfl) ?_
            refine va_get (D := (dC, dI)) (ci := 6) (v := .ref a_o_g) (C := RX7) (T := TX7) (N := 15) hx hb hts iX7 hown hK hP 0 rfl rfl 0 (by decide) (hts (.fieldLink RX7 11 "PascalRowsModel" "g" "[I") (List.mem_of_getElem? (i := 1) rfl)) (fun _ h9 => h9) rfl dX7_happens_72 ?_
            refine lv_iconst (v := (2 : Int32)) hx hb dX7_happens_75 (by decide) ?_
            obtain ⟨g_108, eg_108, hg_108, hr⟩ := rd_e hr
            refine va_iald hx hb hK hP 1 0 rfl rfl hg_108 dX7_happens_76 ?_
            refine tp_ eg_108 ?_
            refine lv_iload_n hx hb dX7_happens_77 rfl (lv_at hl 2 rfl) ?_
            refine lv_iadd hx hb dX7_happens_78 ?_
            refine va_mmin hx hb (hml.trans hl.1.symm) hown (hts (.methodLink RX7 195 Lib.Math.min.name) (List.mem_of_getElem? (i := 2) rfl)) (hts (.static Lib.Math.min.name) (List.mem_of_getElem? (i := 3) rfl)) (hts (.initialized "java/lang/Math") (List.mem_of_getElem? (i := 4) rfl)) (hts (.code Lib.Math.min.name Lib.Math.min.code 2 (some .int)) (List.mem_of_getElem? (i := 5) rfl)) (Nat.le_of_ble_eq_true rfl) (Nat.le_of_ble_eq_true rfl) (Nat.zero_le _) (Nat.zero_le _) dX7_happens_79 ?_
            obtain ⟨w_109, ew_109, hw_109, hr⟩ := wr_e hr
            refine va_iast hx hb hK hP (hD.fst rfl) hS 1 0 rfl rfl hw_109 dX7_happens_82 (fun H locs hP _ hS => ?_)
            rw [← ew_109] at hP
            have hP : va_P (dC, dI) vwCl [(a_o, .inr (6, [.ref a_o_g, .ref a_o_kept, .ref a_o_was, .int o_isKept, .ref a_o_triangle, .int o_takenBy, .ref a_o_text, .int o_fed, .int o_place, .int o_letter, .int o_first, .int o_second, .ref a_o_sort, .ref a_o_size, .ref a_o_items])), (a_o_g, .inl (cI, 64, .inl w_109))] H := hP
            refine lv_iload_n hx hb dX7_happens_83 rfl (lv_at hl 1 rfl) ?_
            refine lv_iconst (v := (3 : Int32)) hx hb dX7_happens_84 (by decide) ?_
            refine lv_icmp_ne (tgt := 147) hx hb dX7_happens_85 (by decide) (fun c_110 => ?_) (fun c_110 => ?_)
            · have hr := ite_n hr c_110
              obtain rfl := Option.some.inj hr
              exact hret H locs _ hP hS (fun Qc free hq hf => W.vret hx hb hrt hq hf dX7_happens_147 hlocks)
            · have hr := ite_p hr c_110
              refine lv_iload_n hx hb dX7_happens_88 rfl (lv_at hl 2 rfl) ?_
              refine lv_aload_n hx hb dX7_happens_89 rfl (lv_at hl 0 rfl) ?_
              refine va_get (D := (dC, dI)) (ci := 6) (v := .ref a_o_g) (C := RX7) (T := TX7) (N := 15) hx hb hts iX7 hown hK hP 0 rfl rfl 0 (by decide) (hts (.fieldLink RX7 11 "PascalRowsModel" "g" "[I") (List.mem_of_getElem? (i := 1) rfl)) (fun _ h9 => h9) rfl dX7_happens_90 ?_
              refine lv_iconst (v := (4 : Int32)) hx hb dX7_happens_93 (by decide) ?_
              obtain ⟨g_111, eg_111, hg_111, hr⟩ := rd_e hr
              refine va_iald hx hb hK hP 1 0 rfl rfl hg_111 dX7_happens_94 ?_
              refine tp_ eg_111 ?_
              refine lv_icmp_ge (tgt := 147) hx hb dX7_happens_95 (by decide) (fun c_112 => ?_) (fun c_112 => ?_)
              · have hr := ite_p hr c_112
                obtain rfl := Option.some.inj hr
                exact hret H locs _ hP hS (fun Qc free hq hf => W.vret hx hb hrt hq hf dX7_happens_147 hlocks)
              · have hr := ite_n hr c_112
                refine lv_aload_n hx hb dX7_happens_98 rfl (lv_at hl 0 rfl) ?_
                refine va_get (D := (dC, dI)) (ci := 6) (v := .ref a_o_g) (C := RX7) (T := TX7) (N := 15) hx hb hts iX7 hown hK hP 0 rfl rfl 0 (by decide) (hts (.fieldLink RX7 11 "PascalRowsModel" "g" "[I") (List.mem_of_getElem? (i := 1) rfl)) (fun _ h9 => h9) rfl dX7_happens_99 ?_
                refine lv_iconst (v := (4 : Int32)) hx hb dX7_happens_102 (by decide) ?_
                refine lv_dup2_11 hx hb dX7_happens_103 rfl rfl ?_
                obtain ⟨g_113, eg_113, hg_113, hr⟩ := rd_e hr
                refine va_iald hx hb hK hP 1 0 rfl rfl hg_113 dX7_happens_104 ?_
                refine tp_ eg_113 ?_
                refine lv_iconst (v := (1 : Int32)) hx hb dX7_happens_105 (by decide) ?_
                refine lv_isub hx hb dX7_happens_106 ?_
                obtain ⟨w_114, ew_114, hw_114, hr⟩ := wr_e hr
                refine va_iast hx hb hK hP (hD.fst rfl) hS 1 0 rfl rfl hw_114 dX7_happens_107 (fun H locs hP _ hS => ?_)
                rw [← ew_114] at hP
                have hP : va_P (dC, dI) vwCl [(a_o, .inr (6, [.ref a_o_g, .ref a_o_kept, .ref a_o_was, .int o_isKept, .ref a_o_triangle, .int o_takenBy, .ref a_o_text, .int o_fed, .int o_place, .int o_letter, .int o_first, .int o_second, .ref a_o_sort, .ref a_o_size, .ref a_o_items])), (a_o_g, .inl (cI, 64, .inl w_114))] H := hP
                refine lv_iconst (v := (2 : Int32)) hx hb dX7_happens_108 (by decide) ?_
                refine lv_iload_n hx hb dX7_happens_109 rfl (lv_at hl 2 rfl) ?_
                refine lv_imul hx hb dX7_happens_110 ?_
                refine lv_istore_n (lv' := [(3, .int ((2 : Int32) * p1)), (0, .ref a_o), (1, .int p0), (2, .int p1)]) hx hb dX7_happens_111 rfl hl (by decide) rfl (fun ls hl => ?_)
                have hL112 : ∀  (k_112 : (Nat → Int32) → Option ((Nat → Int32))) (hk : ∀ (xc_o_g_112 : Nat → Int32) (ls : Array Slot), lv_has ls 4 [] → ∀ (H : Heap) (locs : List Loc), va_P (dC, dI) vwCl [(a_o, .inr (6, [.ref a_o_g, .ref a_o_kept, .ref a_o_was, .int o_isKept, .ref a_o_triangle, .int o_takenBy, .ref a_o_text, .int o_fed, .int o_place, .int o_letter, .int o_first, .int o_second, .ref a_o_sort, .ref a_o_size, .ref a_o_items])), (a_o_g, .inl (cI, 64, .inl xc_o_g_112))] H → va_S A s.heap H locs →  k_112 xc_o_g_112 = some r → W p l e rmX7_happens s m args below meth c H locs 0 0 Q (F0 m 147 ls [])) (fuel : Nat) (v3_112 : Int32) (o_g_112 : Nat → Int32) (ls : Array Slot), lv_has ls 4 [(0, .ref a_o), (3, .int v3_112)] → ∀ (H : Heap) (locs : List Loc), va_P (dC, dI) vwCl [(a_o, .inr (6, [.ref a_o_g, .ref a_o_kept, .ref a_o_was, .int o_isKept, .ref a_o_triangle, .int o_takenBy, .ref a_o_text, .int o_fed, .int o_place, .int o_letter, .int o_first, .int o_second, .ref a_o_sort, .ref a_o_size, .ref a_o_items])), (a_o_g, .inl (cI, 64, .inl o_g_112))] H → va_S A s.heap H locs → f_X7_happens_L112 k_112  fuel v3_112 o_g_112 = some r → W p l e rmX7_happens s m args below meth c H locs 0 0 Q (F0 m 112 ls []) := by
                  intro k_112 hk fuel
                  induction fuel with
                  | zero =>
                    intro v3_112 o_g_112 ls hl H locs hP hS hr
                    rw [f_X7_happens_L112_z] at hr
                    cases hr
                  | succ fuel ih =>
                    intro v3_112 o_g_112 ls hl H locs hP hS hr
                    rw [f_X7_happens_L112_s] at hr
                    refine lv_iload_n hx hb dX7_happens_112 rfl (lv_at hl 1 rfl) ?_
                    refine lv_iconst (v := (2 : Int32)) hx hb dX7_happens_113 (by decide) ?_
                    refine lv_aload_n hx hb dX7_happens_114 rfl (lv_at hl 0 rfl) ?_
                    refine va_get (D := (dC, dI)) (ci := 6) (v := .ref a_o_g) (C := RX7) (T := TX7) (N := 15) hx hb hts iX7 hown hK hP 0 rfl rfl 0 (by decide) (hts (.fieldLink RX7 11 "PascalRowsModel" "g" "[I") (List.mem_of_getElem? (i := 1) rfl)) (fun _ h9 => h9) rfl dX7_happens_115 ?_
                    refine lv_iconst (v := (4 : Int32)) hx hb dX7_happens_118 (by decide) ?_
                    obtain ⟨g_115, eg_115, hg_115, hr⟩ := rd_e hr
                    refine va_iald hx hb hK hP 1 0 rfl rfl hg_115 dX7_happens_119 ?_
                    refine tp_ eg_115 ?_
                    refine lv_imul hx hb dX7_happens_120 ?_
                    refine lv_icmp_ge (tgt := 147) hx hb dX7_happens_121 (by decide) (fun c_116 => ?_) (fun c_116 => ?_)
                    · have hr := ite_p hr c_116
                      exact hk o_g_112 ls (lv_sub hl [] rfl) H locs hP hS hr
                    · have hr := ite_n hr c_116
                      refine lv_aload_n hx hb dX7_happens_124 rfl (lv_at hl 0 rfl) ?_
                      refine va_get (D := (dC, dI)) (ci := 6) (v := .ref a_o_g) (C := RX7) (T := TX7) (N := 15) hx hb hts iX7 hown hK hP 0 rfl rfl 0 (by decide) (hts (.fieldLink RX7 11 "PascalRowsModel" "g" "[I") (List.mem_of_getElem? (i := 1) rfl)) (fun _ h9 => h9) rfl dX7_happens_125 ?_
                      refine lv_iconst (v := (5 : Int32)) hx hb dX7_happens_128 (by decide) ?_
                      refine lv_iload_n hx hb dX7_happens_129 rfl (lv_at hl 1 rfl) ?_
                      refine lv_iadd hx hb dX7_happens_130 ?_
                      refine lv_aload_n hx hb dX7_happens_131 rfl (lv_at hl 0 rfl) ?_
                      refine va_get (D := (dC, dI)) (ci := 6) (v := .ref a_o_g) (C := RX7) (T := TX7) (N := 15) hx hb hts iX7 hown hK hP 0 rfl rfl 0 (by decide) (hts (.fieldLink RX7 11 "PascalRowsModel" "g" "[I") (List.mem_of_getElem? (i := 1) rfl)) (fun _ h9 => h9) rfl dX7_happens_132 ?_
                      refine lv_bipush (v := (7 : Int32)) hx hb dX7_happens_135 (by decide) ?_
                      refine lv_iload_n hx hb dX7_happens_137 rfl (lv_at hl 1 rfl) ?_
                      refine lv_iadd hx hb dX7_happens_138 ?_
                      obtain ⟨g_117, eg_117, hg_117, hr⟩ := rd_e hr
                      refine va_iald hx hb hK hP 1 0 rfl rfl hg_117 dX7_happens_139 ?_
                      refine tp_ eg_117 ?_
                      obtain ⟨w_118, ew_118, hw_118, hr⟩ := wr_e hr
                      refine va_iast hx hb hK hP (hD.fst rfl) hS 1 0 rfl rfl hw_118 dX7_happens_140 (fun H locs hP _ hS => ?_)
                      rw [← ew_118] at hP
                      have hP : va_P (dC, dI) vwCl [(a_o, .inr (6, [.ref a_o_g, .ref a_o_kept, .ref a_o_was, .int o_isKept, .ref a_o_triangle, .int o_takenBy, .ref a_o_text, .int o_fed, .int o_place, .int o_letter, .int o_first, .int o_second, .ref a_o_sort, .ref a_o_size, .ref a_o_items])), (a_o_g, .inl (cI, 64, .inl w_118))] H := hP
                      refine lv_iinc (v := (v3_112 + (1 : Int32))) (lv' := [(3, .int (v3_112 + (1 : Int32))), (0, .ref a_o)]) hx hb dX7_happens_141 hl (k := 1) rfl (congrArg (fun z => v3_112 + z) (by decide)) (by decide) rfl (fun ls hl => ?_)
                      refine lv_goto (tgt := 112) hx hb dX7_happens_144 (by decide) ?_
                      exact ih (v3_112 + (1 : Int32)) w_118 ls (lv_sub hl [1, 0] rfl) H locs hP hS hr
                refine hL112  _ (fun xc_o_g_112 ls hl H locs hP hS hr => ?_) 5000 ((2 : Int32) * p1) w_114 ls (lv_sub hl [1, 0] rfl) H locs hP hS hr
                obtain rfl := Option.some.inj hr
                exact hret H locs _ hP hS (fun Qc free hq hf => W.vret hx hb hrt hq hf dX7_happens_147 hlocks)
        · have hr := ite_p hr c_97
          refine lv_aload_n hx hb dX7_happens_52 rfl (lv_at hl 0 rfl) ?_
          refine va_get (D := (dC, dI)) (ci := 6) (v := .ref a_o_g) (C := RX7) (T := TX7) (N := 15) hx hb hts iX7 hown hK hP 0 rfl rfl 0 (by decide) (hts (.fieldLink RX7 11 "PascalRowsModel" "g" "[I") (List.mem_of_getElem? (i := 1) rfl)) (fun _ h9 => h9) rfl dX7_happens_53 ?_
          refine lv_iconst (v := (1 : Int32)) hx hb dX7_happens_56 (by decide) ?_
          refine lv_iload_n hx hb dX7_happens_57 rfl (lv_at hl 2 rfl) ?_
          obtain ⟨w_119, ew_119, hw_119, hr⟩ := wr_e hr
          refine va_iast hx hb hK hP (hD.fst rfl) hS 1 0 rfl rfl hw_119 dX7_happens_58 (fun H locs hP _ hS => ?_)
          rw [← ew_119] at hP
          have hP : va_P (dC, dI) vwCl [(a_o, .inr (6, [.ref a_o_g, .ref a_o_kept, .ref a_o_was, .int o_isKept, .ref a_o_triangle, .int o_takenBy, .ref a_o_text, .int o_fed, .int o_place, .int o_letter, .int o_first, .int o_second, .ref a_o_sort, .ref a_o_size, .ref a_o_items])), (a_o_g, .inl (cI, 64, .inl w_119))] H := hP
          refine lv_iload_n hx hb dX7_happens_59 rfl (lv_at hl 1 rfl) ?_
          refine lv_iconst (v := (2 : Int32)) hx hb dX7_happens_60 (by decide) ?_
          refine lv_icmp_ne (tgt := 83) hx hb dX7_happens_61 (by decide) (fun c_120 => ?_) (fun c_120 => ?_)
          · have hr := ite_n hr c_120
            refine lv_iload_n hx hb dX7_happens_83 rfl (lv_at hl 1 rfl) ?_
            refine lv_iconst (v := (3 : Int32)) hx hb dX7_happens_84 (by decide) ?_
            refine lv_icmp_ne (tgt := 147) hx hb dX7_happens_85 (by decide) (fun c_121 => ?_) (fun c_121 => ?_)
            · have hr := ite_n hr c_121
              obtain rfl := Option.some.inj hr
              exact hret H locs _ hP hS (fun Qc free hq hf => W.vret hx hb hrt hq hf dX7_happens_147 hlocks)
            · have hr := ite_p hr c_121
              refine lv_iload_n hx hb dX7_happens_88 rfl (lv_at hl 2 rfl) ?_
              refine lv_aload_n hx hb dX7_happens_89 rfl (lv_at hl 0 rfl) ?_
              refine va_get (D := (dC, dI)) (ci := 6) (v := .ref a_o_g) (C := RX7) (T := TX7) (N := 15) hx hb hts iX7 hown hK hP 0 rfl rfl 0 (by decide) (hts (.fieldLink RX7 11 "PascalRowsModel" "g" "[I") (List.mem_of_getElem? (i := 1) rfl)) (fun _ h9 => h9) rfl dX7_happens_90 ?_
              refine lv_iconst (v := (4 : Int32)) hx hb dX7_happens_93 (by decide) ?_
              obtain ⟨g_122, eg_122, hg_122, hr⟩ := rd_e hr
              refine va_iald hx hb hK hP 1 0 rfl rfl hg_122 dX7_happens_94 ?_
              refine tp_ eg_122 ?_
              refine lv_icmp_ge (tgt := 147) hx hb dX7_happens_95 (by decide) (fun c_123 => ?_) (fun c_123 => ?_)
              · have hr := ite_p hr c_123
                obtain rfl := Option.some.inj hr
                exact hret H locs _ hP hS (fun Qc free hq hf => W.vret hx hb hrt hq hf dX7_happens_147 hlocks)
              · have hr := ite_n hr c_123
                refine lv_aload_n hx hb dX7_happens_98 rfl (lv_at hl 0 rfl) ?_
                refine va_get (D := (dC, dI)) (ci := 6) (v := .ref a_o_g) (C := RX7) (T := TX7) (N := 15) hx hb hts iX7 hown hK hP 0 rfl rfl 0 (by decide) (hts (.fieldLink RX7 11 "PascalRowsModel" "g" "[I") (List.mem_of_getElem? (i := 1) rfl)) (fun _ h9 => h9) rfl dX7_happens_99 ?_
                refine lv_iconst (v := (4 : Int32)) hx hb dX7_happens_102 (by decide) ?_
                refine lv_dup2_11 hx hb dX7_happens_103 rfl rfl ?_
                obtain ⟨g_124, eg_124, hg_124, hr⟩ := rd_e hr
                refine va_iald hx hb hK hP 1 0 rfl rfl hg_124 dX7_happens_104 ?_
                refine tp_ eg_124 ?_
                refine lv_iconst (v := (1 : Int32)) hx hb dX7_happens_105 (by decide) ?_
                refine lv_isub hx hb dX7_happens_106 ?_
                obtain ⟨w_125, ew_125, hw_125, hr⟩ := wr_e hr
                refine va_iast hx hb hK hP (hD.fst rfl) hS 1 0 rfl rfl hw_125 dX7_happens_107 (fun H locs hP _ hS => ?_)
                rw [← ew_125] at hP
                have hP : va_P (dC, dI) vwCl [(a_o, .inr (6, [.ref a_o_g, .ref a_o_kept, .ref a_o_was, .int o_isKept, .ref a_o_triangle, .int o_takenBy, .ref a_o_text, .int o_fed, .int o_place, .int o_letter, .int o_first, .int o_second, .ref a_o_sort, .ref a_o_size, .ref a_o_items])), (a_o_g, .inl (cI, 64, .inl w_125))] H := hP
                refine lv_iconst (v := (2 : Int32)) hx hb dX7_happens_108 (by decide) ?_
                refine lv_iload_n hx hb dX7_happens_109 rfl (lv_at hl 2 rfl) ?_
                refine lv_imul hx hb dX7_happens_110 ?_
                refine lv_istore_n (lv' := [(3, .int ((2 : Int32) * p1)), (0, .ref a_o), (1, .int p0), (2, .int p1)]) hx hb dX7_happens_111 rfl hl (by decide) rfl (fun ls hl => ?_)
                have hL112 : ∀  (k_112 : (Nat → Int32) → Option ((Nat → Int32))) (hk : ∀ (xc_o_g_112 : Nat → Int32) (ls : Array Slot), lv_has ls 4 [] → ∀ (H : Heap) (locs : List Loc), va_P (dC, dI) vwCl [(a_o, .inr (6, [.ref a_o_g, .ref a_o_kept, .ref a_o_was, .int o_isKept, .ref a_o_triangle, .int o_takenBy, .ref a_o_text, .int o_fed, .int o_place, .int o_letter, .int o_first, .int o_second, .ref a_o_sort, .ref a_o_size, .ref a_o_items])), (a_o_g, .inl (cI, 64, .inl xc_o_g_112))] H → va_S A s.heap H locs →  k_112 xc_o_g_112 = some r → W p l e rmX7_happens s m args below meth c H locs 0 0 Q (F0 m 147 ls [])) (fuel : Nat) (v3_112 : Int32) (o_g_112 : Nat → Int32) (ls : Array Slot), lv_has ls 4 [(0, .ref a_o), (3, .int v3_112)] → ∀ (H : Heap) (locs : List Loc), va_P (dC, dI) vwCl [(a_o, .inr (6, [.ref a_o_g, .ref a_o_kept, .ref a_o_was, .int o_isKept, .ref a_o_triangle, .int o_takenBy, .ref a_o_text, .int o_fed, .int o_place, .int o_letter, .int o_first, .int o_second, .ref a_o_sort, .ref a_o_size, .ref a_o_items])), (a_o_g, .inl (cI, 64, .inl o_g_112))] H → va_S A s.heap H locs → f_X7_happens_L112 k_112  fuel v3_112 o_g_112 = some r → W p l e rmX7_happens s m args below meth c H locs 0 0 Q (F0 m 112 ls []) := by
                  intro k_112 hk fuel
                  induction fuel with
                  | zero =>
                    intro v3_112 o_g_112 ls hl H locs hP hS hr
                    rw [f_X7_happens_L112_z] at hr
                    cases hr
                  | succ fuel ih =>
                    intro v3_112 o_g_112 ls hl H locs hP hS hr
                    rw [f_X7_happens_L112_s] at hr
                    refine lv_iload_n hx hb dX7_happens_112 rfl (lv_at hl 1 rfl) ?_
                    refine lv_iconst (v := (2 : Int32)) hx hb dX7_happens_113 (by decide) ?_
                    refine lv_aload_n hx hb dX7_happens_114 rfl (lv_at hl 0 rfl) ?_
                    refine va_get (D := (dC, dI)) (ci := 6) (v := .ref a_o_g) (C := RX7) (T := TX7) (N := 15) hx hb hts iX7 hown hK hP 0 rfl rfl 0 (by decide) (hts (.fieldLink RX7 11 "PascalRowsModel" "g" "[I") (List.mem_of_getElem? (i := 1) rfl)) (fun _ h9 => h9) rfl dX7_happens_115 ?_
                    refine lv_iconst (v := (4 : Int32)) hx hb dX7_happens_118 (by decide) ?_
                    obtain ⟨g_126, eg_126, hg_126, hr⟩ := rd_e hr
                    refine va_iald hx hb hK hP 1 0 rfl rfl hg_126 dX7_happens_119 ?_
                    refine tp_ eg_126 ?_
                    refine lv_imul hx hb dX7_happens_120 ?_
                    refine lv_icmp_ge (tgt := 147) hx hb dX7_happens_121 (by decide) (fun c_127 => ?_) (fun c_127 => ?_)
                    · have hr := ite_p hr c_127
                      exact hk o_g_112 ls (lv_sub hl [] rfl) H locs hP hS hr
                    · have hr := ite_n hr c_127
                      refine lv_aload_n hx hb dX7_happens_124 rfl (lv_at hl 0 rfl) ?_
                      refine va_get (D := (dC, dI)) (ci := 6) (v := .ref a_o_g) (C := RX7) (T := TX7) (N := 15) hx hb hts iX7 hown hK hP 0 rfl rfl 0 (by decide) (hts (.fieldLink RX7 11 "PascalRowsModel" "g" "[I") (List.mem_of_getElem? (i := 1) rfl)) (fun _ h9 => h9) rfl dX7_happens_125 ?_
                      refine lv_iconst (v := (5 : Int32)) hx hb dX7_happens_128 (by decide) ?_
                      refine lv_iload_n hx hb dX7_happens_129 rfl (lv_at hl 1 rfl) ?_
                      refine lv_iadd hx hb dX7_happens_130 ?_
                      refine lv_aload_n hx hb dX7_happens_131 rfl (lv_at hl 0 rfl) ?_
                      refine va_get (D := (dC, dI)) (ci := 6) (v := .ref a_o_g) (C := RX7) (T := TX7) (N := 15) hx hb hts iX7 hown hK hP 0 rfl rfl 0 (by decide) (hts (.fieldLink RX7 11 "PascalRowsModel" "g" "[I") (List.mem_of_getElem? (i := 1) rfl)) (fun _ h9 => h9) rfl dX7_happens_132 ?_
                      refine lv_bipush (v := (7 : Int32)) hx hb dX7_happens_135 (by decide) ?_
                      refine lv_iload_n hx hb dX7_happens_137 rfl (lv_at hl 1 rfl) ?_
                      refine lv_iadd hx hb dX7_happens_138 ?_
                      obtain ⟨g_128, eg_128, hg_128, hr⟩ := rd_e hr
                      refine va_iald hx hb hK hP 1 0 rfl rfl hg_128 dX7_happens_139 ?_
                      refine tp_ eg_128 ?_
                      obtain ⟨w_129, ew_129, hw_129, hr⟩ := wr_e hr
                      refine va_iast hx hb hK hP (hD.fst rfl) hS 1 0 rfl rfl hw_129 dX7_happens_140 (fun H locs hP _ hS => ?_)
                      rw [← ew_129] at hP
                      have hP : va_P (dC, dI) vwCl [(a_o, .inr (6, [.ref a_o_g, .ref a_o_kept, .ref a_o_was, .int o_isKept, .ref a_o_triangle, .int o_takenBy, .ref a_o_text, .int o_fed, .int o_place, .int o_letter, .int o_first, .int o_second, .ref a_o_sort, .ref a_o_size, .ref a_o_items])), (a_o_g, .inl (cI, 64, .inl w_129))] H := hP
                      refine lv_iinc (v := (v3_112 + (1 : Int32))) (lv' := [(3, .int (v3_112 + (1 : Int32))), (0, .ref a_o)]) hx hb dX7_happens_141 hl (k := 1) rfl (congrArg (fun z => v3_112 + z) (by decide)) (by decide) rfl (fun ls hl => ?_)
                      refine lv_goto (tgt := 112) hx hb dX7_happens_144 (by decide) ?_
                      exact ih (v3_112 + (1 : Int32)) w_129 ls (lv_sub hl [1, 0] rfl) H locs hP hS hr
                refine hL112  _ (fun xc_o_g_112 ls hl H locs hP hS hr => ?_) 5000 ((2 : Int32) * p1) w_125 ls (lv_sub hl [1, 0] rfl) H locs hP hS hr
                obtain rfl := Option.some.inj hr
                exact hret H locs _ hP hS (fun Qc free hq hf => W.vret hx hb hrt hq hf dX7_happens_147 hlocks)
          · have hr := ite_p hr c_120
            refine lv_aload_n hx hb dX7_happens_64 rfl (lv_at hl 0 rfl) ?_
            refine va_get (D := (dC, dI)) (ci := 6) (v := .ref a_o_g) (C := RX7) (T := TX7) (N := 15) hx hb hts iX7 hown hK hP 0 rfl rfl 0 (by decide) (hts (.fieldLink RX7 11 "PascalRowsModel" "g" "[I") (List.mem_of_getElem? (i := 1) rfl)) (fun _ h9 => h9) rfl dX7_happens_65 ?_
            refine lv_iconst (v := (2 : Int32)) hx hb dX7_happens_68 (by decide) ?_
            refine lv_bipush (v := (127 : Int32)) hx hb dX7_happens_69 (by decide) ?_
            refine lv_aload_n hx hb dX7_happens_71 rfl (lv_at hl 0 rfl) ?_
            refine va_get (D := (dC, dI)) (ci := 6) (v := .ref a_o_g) (C := RX7) (T := TX7) (N := 15) hx hb hts iX7 hown hK hP 0 rfl rfl 0 (by decide) (hts (.fieldLink RX7 11 "PascalRowsModel" "g" "[I") (List.mem_of_getElem? (i := 1) rfl)) (fun _ h9 => h9) rfl dX7_happens_72 ?_
            refine lv_iconst (v := (2 : Int32)) hx hb dX7_happens_75 (by decide) ?_
            obtain ⟨g_130, eg_130, hg_130, hr⟩ := rd_e hr
            refine va_iald hx hb hK hP 1 0 rfl rfl hg_130 dX7_happens_76 ?_
            refine tp_ eg_130 ?_
            refine lv_iload_n hx hb dX7_happens_77 rfl (lv_at hl 2 rfl) ?_
            refine lv_iadd hx hb dX7_happens_78 ?_
            refine va_mmin hx hb (hml.trans hl.1.symm) hown (hts (.methodLink RX7 195 Lib.Math.min.name) (List.mem_of_getElem? (i := 2) rfl)) (hts (.static Lib.Math.min.name) (List.mem_of_getElem? (i := 3) rfl)) (hts (.initialized "java/lang/Math") (List.mem_of_getElem? (i := 4) rfl)) (hts (.code Lib.Math.min.name Lib.Math.min.code 2 (some .int)) (List.mem_of_getElem? (i := 5) rfl)) (Nat.le_of_ble_eq_true rfl) (Nat.le_of_ble_eq_true rfl) (Nat.zero_le _) (Nat.zero_le _) dX7_happens_79 ?_
            obtain ⟨w_131, ew_131, hw_131, hr⟩ := wr_e hr
            refine va_iast hx hb hK hP (hD.fst rfl) hS 1 0 rfl rfl hw_131 dX7_happens_82 (fun H locs hP _ hS => ?_)
            rw [← ew_131] at hP
            have hP : va_P (dC, dI) vwCl [(a_o, .inr (6, [.ref a_o_g, .ref a_o_kept, .ref a_o_was, .int o_isKept, .ref a_o_triangle, .int o_takenBy, .ref a_o_text, .int o_fed, .int o_place, .int o_letter, .int o_first, .int o_second, .ref a_o_sort, .ref a_o_size, .ref a_o_items])), (a_o_g, .inl (cI, 64, .inl w_131))] H := hP
            refine lv_iload_n hx hb dX7_happens_83 rfl (lv_at hl 1 rfl) ?_
            refine lv_iconst (v := (3 : Int32)) hx hb dX7_happens_84 (by decide) ?_
            refine lv_icmp_ne (tgt := 147) hx hb dX7_happens_85 (by decide) (fun c_132 => ?_) (fun c_132 => ?_)
            · have hr := ite_n hr c_132
              obtain rfl := Option.some.inj hr
              exact hret H locs _ hP hS (fun Qc free hq hf => W.vret hx hb hrt hq hf dX7_happens_147 hlocks)
            · have hr := ite_p hr c_132
              refine lv_iload_n hx hb dX7_happens_88 rfl (lv_at hl 2 rfl) ?_
              refine lv_aload_n hx hb dX7_happens_89 rfl (lv_at hl 0 rfl) ?_
              refine va_get (D := (dC, dI)) (ci := 6) (v := .ref a_o_g) (C := RX7) (T := TX7) (N := 15) hx hb hts iX7 hown hK hP 0 rfl rfl 0 (by decide) (hts (.fieldLink RX7 11 "PascalRowsModel" "g" "[I") (List.mem_of_getElem? (i := 1) rfl)) (fun _ h9 => h9) rfl dX7_happens_90 ?_
              refine lv_iconst (v := (4 : Int32)) hx hb dX7_happens_93 (by decide) ?_
              obtain ⟨g_133, eg_133, hg_133, hr⟩ := rd_e hr
              refine va_iald hx hb hK hP 1 0 rfl rfl hg_133 dX7_happens_94 ?_
              refine tp_ eg_133 ?_
              refine lv_icmp_ge (tgt := 147) hx hb dX7_happens_95 (by decide) (fun c_134 => ?_) (fun c_134 => ?_)
              · have hr := ite_p hr c_134
                obtain rfl := Option.some.inj hr
                exact hret H locs _ hP hS (fun Qc free hq hf => W.vret hx hb hrt hq hf dX7_happens_147 hlocks)
              · have hr := ite_n hr c_134
                refine lv_aload_n hx hb dX7_happens_98 rfl (lv_at hl 0 rfl) ?_
                refine va_get (D := (dC, dI)) (ci := 6) (v := .ref a_o_g) (C := RX7) (T := TX7) (N := 15) hx hb hts iX7 hown hK hP 0 rfl rfl 0 (by decide) (hts (.fieldLink RX7 11 "PascalRowsModel" "g" "[I") (List.mem_of_getElem? (i := 1) rfl)) (fun _ h9 => h9) rfl dX7_happens_99 ?_
                refine lv_iconst (v := (4 : Int32)) hx hb dX7_happens_102 (by decide) ?_
                refine lv_dup2_11 hx hb dX7_happens_103 rfl rfl ?_
                obtain ⟨g_135, eg_135, hg_135, hr⟩ := rd_e hr
                refine va_iald hx hb hK hP 1 0 rfl rfl hg_135 dX7_happens_104 ?_
                refine tp_ eg_135 ?_
                refine lv_iconst (v := (1 : Int32)) hx hb dX7_happens_105 (by decide) ?_
                refine lv_isub hx hb dX7_happens_106 ?_
                obtain ⟨w_136, ew_136, hw_136, hr⟩ := wr_e hr
                refine va_iast hx hb hK hP (hD.fst rfl) hS 1 0 rfl rfl hw_136 dX7_happens_107 (fun H locs hP _ hS => ?_)
                rw [← ew_136] at hP
                have hP : va_P (dC, dI) vwCl [(a_o, .inr (6, [.ref a_o_g, .ref a_o_kept, .ref a_o_was, .int o_isKept, .ref a_o_triangle, .int o_takenBy, .ref a_o_text, .int o_fed, .int o_place, .int o_letter, .int o_first, .int o_second, .ref a_o_sort, .ref a_o_size, .ref a_o_items])), (a_o_g, .inl (cI, 64, .inl w_136))] H := hP
                refine lv_iconst (v := (2 : Int32)) hx hb dX7_happens_108 (by decide) ?_
                refine lv_iload_n hx hb dX7_happens_109 rfl (lv_at hl 2 rfl) ?_
                refine lv_imul hx hb dX7_happens_110 ?_
                refine lv_istore_n (lv' := [(3, .int ((2 : Int32) * p1)), (0, .ref a_o), (1, .int p0), (2, .int p1)]) hx hb dX7_happens_111 rfl hl (by decide) rfl (fun ls hl => ?_)
                have hL112 : ∀  (k_112 : (Nat → Int32) → Option ((Nat → Int32))) (hk : ∀ (xc_o_g_112 : Nat → Int32) (ls : Array Slot), lv_has ls 4 [] → ∀ (H : Heap) (locs : List Loc), va_P (dC, dI) vwCl [(a_o, .inr (6, [.ref a_o_g, .ref a_o_kept, .ref a_o_was, .int o_isKept, .ref a_o_triangle, .int o_takenBy, .ref a_o_text, .int o_fed, .int o_place, .int o_letter, .int o_first, .int o_second, .ref a_o_sort, .ref a_o_size, .ref a_o_items])), (a_o_g, .inl (cI, 64, .inl xc_o_g_112))] H → va_S A s.heap H locs →  k_112 xc_o_g_112 = some r → W p l e rmX7_happens s m args below meth c H locs 0 0 Q (F0 m 147 ls [])) (fuel : Nat) (v3_112 : Int32) (o_g_112 : Nat → Int32) (ls : Array Slot), lv_has ls 4 [(0, .ref a_o), (3, .int v3_112)] → ∀ (H : Heap) (locs : List Loc), va_P (dC, dI) vwCl [(a_o, .inr (6, [.ref a_o_g, .ref a_o_kept, .ref a_o_was, .int o_isKept, .ref a_o_triangle, .int o_takenBy, .ref a_o_text, .int o_fed, .int o_place, .int o_letter, .int o_first, .int o_second, .ref a_o_sort, .ref a_o_size, .ref a_o_items])), (a_o_g, .inl (cI, 64, .inl o_g_112))] H → va_S A s.heap H locs → f_X7_happens_L112 k_112  fuel v3_112 o_g_112 = some r → W p l e rmX7_happens s m args below meth c H locs 0 0 Q (F0 m 112 ls []) := by
                  intro k_112 hk fuel
                  induction fuel with
                  | zero =>
                    intro v3_112 o_g_112 ls hl H locs hP hS hr
                    rw [f_X7_happens_L112_z] at hr
                    cases hr
                  | succ fuel ih =>
                    intro v3_112 o_g_112 ls hl H locs hP hS hr
                    rw [f_X7_happens_L112_s] at hr
                    refine lv_iload_n hx hb dX7_happens_112 rfl (lv_at hl 1 rfl) ?_
                    refine lv_iconst (v := (2 : Int32)) hx hb dX7_happens_113 (by decide) ?_
                    refine lv_aload_n hx hb dX7_happens_114 rfl (lv_at hl 0 rfl) ?_
                    refine va_get (D := (dC, dI)) (ci := 6) (v := .ref a_o_g) (C := RX7) (T := TX7) (N := 15) hx hb hts iX7 hown hK hP 0 rfl rfl 0 (by decide) (hts (.fieldLink RX7 11 "PascalRowsModel" "g" "[I") (List.mem_of_getElem? (i := 1) rfl)) (fun _ h9 => h9) rfl dX7_happens_115 ?_
                    refine lv_iconst (v := (4 : Int32)) hx hb dX7_happens_118 (by decide) ?_
                    obtain ⟨g_137, eg_137, hg_137, hr⟩ := rd_e hr
                    refine va_iald hx hb hK hP 1 0 rfl rfl hg_137 dX7_happens_119 ?_
                    refine tp_ eg_137 ?_
                    refine lv_imul hx hb dX7_happens_120 ?_
                    refine lv_icmp_ge (tgt := 147) hx hb dX7_happens_121 (by decide) (fun c_138 => ?_) (fun c_138 => ?_)
                    · have hr := ite_p hr c_138
                      exact hk o_g_112 ls (lv_sub hl [] rfl) H locs hP hS hr
                    · have hr := ite_n hr c_138
                      refine lv_aload_n hx hb dX7_happens_124 rfl (lv_at hl 0 rfl) ?_
                      refine va_get (D := (dC, dI)) (ci := 6) (v := .ref a_o_g) (C := RX7) (T := TX7) (N := 15) hx hb hts iX7 hown hK hP 0 rfl rfl 0 (by decide) (hts (.fieldLink RX7 11 "PascalRowsModel" "g" "[I") (List.mem_of_getElem? (i := 1) rfl)) (fun _ h9 => h9) rfl dX7_happens_125 ?_
                      refine lv_iconst (v := (5 : Int32)) hx hb dX7_happens_128 (by decide) ?_
                      refine lv_iload_n hx hb dX7_happens_129 rfl (lv_at hl 1 rfl) ?_
                      refine lv_iadd hx hb dX7_happens_130 ?_
                      refine lv_aload_n hx hb dX7_happens_131 rfl (lv_at hl 0 rfl) ?_
                      refine va_get (D := (dC, dI)) (ci := 6) (v := .ref a_o_g) (C := RX7) (T := TX7) (N := 15) hx hb hts iX7 hown hK hP 0 rfl rfl 0 (by decide) (hts (.fieldLink RX7 11 "PascalRowsModel" "g" "[I") (List.mem_of_getElem? (i := 1) rfl)) (fun _ h9 => h9) rfl dX7_happens_132 ?_
                      refine lv_bipush (v := (7 : Int32)) hx hb dX7_happens_135 (by decide) ?_
                      refine lv_iload_n hx hb dX7_happens_137 rfl (lv_at hl 1 rfl) ?_
                      refine lv_iadd hx hb dX7_happens_138 ?_
                      obtain ⟨g_139, eg_139, hg_139, hr⟩ := rd_e hr
                      refine va_iald hx hb hK hP 1 0 rfl rfl hg_139 dX7_happens_139 ?_
                      refine tp_ eg_139 ?_
                      obtain ⟨w_140, ew_140, hw_140, hr⟩ := wr_e hr
                      refine va_iast hx hb hK hP (hD.fst rfl) hS 1 0 rfl rfl hw_140 dX7_happens_140 (fun H locs hP _ hS => ?_)
                      rw [← ew_140] at hP
                      have hP : va_P (dC, dI) vwCl [(a_o, .inr (6, [.ref a_o_g, .ref a_o_kept, .ref a_o_was, .int o_isKept, .ref a_o_triangle, .int o_takenBy, .ref a_o_text, .int o_fed, .int o_place, .int o_letter, .int o_first, .int o_second, .ref a_o_sort, .ref a_o_size, .ref a_o_items])), (a_o_g, .inl (cI, 64, .inl w_140))] H := hP
                      refine lv_iinc (v := (v3_112 + (1 : Int32))) (lv' := [(3, .int (v3_112 + (1 : Int32))), (0, .ref a_o)]) hx hb dX7_happens_141 hl (k := 1) rfl (congrArg (fun z => v3_112 + z) (by decide)) (by decide) rfl (fun ls hl => ?_)
                      refine lv_goto (tgt := 112) hx hb dX7_happens_144 (by decide) ?_
                      exact ih (v3_112 + (1 : Int32)) w_140 ls (lv_sub hl [1, 0] rfl) H locs hP hS hr
                refine hL112  _ (fun xc_o_g_112 ls hl H locs hP hS hr => ?_) 5000 ((2 : Int32) * p1) w_136 ls (lv_sub hl [1, 0] rfl) H locs hP hS hr
                obtain rfl := Option.some.inj hr
                exact hret H locs _ hP hS (fun Qc free hq hf => W.vret hx hb hrt hq hf dX7_happens_147 hlocks)
    · have hr := ite_p hr c_47
      refine lv_iconst (v := (3 : Int32)) hx hb dX7_happens_19 (by decide) ?_
      refine lv_goto (tgt := 46) hx hb dX7_happens_20 (by decide) ?_
      obtain ⟨w_141, ew_141, hw_141, hr⟩ := wr_e hr
      refine va_iast hx hb hK hP (hD.fst rfl) hS 1 0 rfl rfl hw_141 dX7_happens_46 (fun H locs hP _ hS => ?_)
      rw [← ew_141] at hP
      have hP : va_P (dC, dI) vwCl [(a_o, .inr (6, [.ref a_o_g, .ref a_o_kept, .ref a_o_was, .int o_isKept, .ref a_o_triangle, .int o_takenBy, .ref a_o_text, .int o_fed, .int o_place, .int o_letter, .int o_first, .int o_second, .ref a_o_sort, .ref a_o_size, .ref a_o_items])), (a_o_g, .inl (cI, 64, .inl w_141))] H := hP
      refine lv_iload_n hx hb dX7_happens_47 rfl (lv_at hl 1 rfl) ?_
      refine lv_iconst (v := (1 : Int32)) hx hb dX7_happens_48 (by decide) ?_
      refine lv_icmp_ne (tgt := 59) hx hb dX7_happens_49 (by decide) (fun c_142 => ?_) (fun c_142 => ?_)
      · have hr := ite_n hr c_142
        refine lv_iload_n hx hb dX7_happens_59 rfl (lv_at hl 1 rfl) ?_
        refine lv_iconst (v := (2 : Int32)) hx hb dX7_happens_60 (by decide) ?_
        refine lv_icmp_ne (tgt := 83) hx hb dX7_happens_61 (by decide) (fun c_143 => ?_) (fun c_143 => ?_)
        · have hr := ite_n hr c_143
          refine lv_iload_n hx hb dX7_happens_83 rfl (lv_at hl 1 rfl) ?_
          refine lv_iconst (v := (3 : Int32)) hx hb dX7_happens_84 (by decide) ?_
          refine lv_icmp_ne (tgt := 147) hx hb dX7_happens_85 (by decide) (fun c_144 => ?_) (fun c_144 => ?_)
          · have hr := ite_n hr c_144
            obtain rfl := Option.some.inj hr
            exact hret H locs _ hP hS (fun Qc free hq hf => W.vret hx hb hrt hq hf dX7_happens_147 hlocks)
          · have hr := ite_p hr c_144
            refine lv_iload_n hx hb dX7_happens_88 rfl (lv_at hl 2 rfl) ?_
            refine lv_aload_n hx hb dX7_happens_89 rfl (lv_at hl 0 rfl) ?_
            refine va_get (D := (dC, dI)) (ci := 6) (v := .ref a_o_g) (C := RX7) (T := TX7) (N := 15) hx hb hts iX7 hown hK hP 0 rfl rfl 0 (by decide) (hts (.fieldLink RX7 11 "PascalRowsModel" "g" "[I") (List.mem_of_getElem? (i := 1) rfl)) (fun _ h9 => h9) rfl dX7_happens_90 ?_
            refine lv_iconst (v := (4 : Int32)) hx hb dX7_happens_93 (by decide) ?_
            obtain ⟨g_145, eg_145, hg_145, hr⟩ := rd_e hr
            refine va_iald hx hb hK hP 1 0 rfl rfl hg_145 dX7_happens_94 ?_
            refine tp_ eg_145 ?_
            refine lv_icmp_ge (tgt := 147) hx hb dX7_happens_95 (by decide) (fun c_146 => ?_) (fun c_146 => ?_)
            · have hr := ite_p hr c_146
              obtain rfl := Option.some.inj hr
              exact hret H locs _ hP hS (fun Qc free hq hf => W.vret hx hb hrt hq hf dX7_happens_147 hlocks)
            · have hr := ite_n hr c_146
              refine lv_aload_n hx hb dX7_happens_98 rfl (lv_at hl 0 rfl) ?_
              refine va_get (D := (dC, dI)) (ci := 6) (v := .ref a_o_g) (C := RX7) (T := TX7) (N := 15) hx hb hts iX7 hown hK hP 0 rfl rfl 0 (by decide) (hts (.fieldLink RX7 11 "PascalRowsModel" "g" "[I") (List.mem_of_getElem? (i := 1) rfl)) (fun _ h9 => h9) rfl dX7_happens_99 ?_
              refine lv_iconst (v := (4 : Int32)) hx hb dX7_happens_102 (by decide) ?_
              refine lv_dup2_11 hx hb dX7_happens_103 rfl rfl ?_
              obtain ⟨g_147, eg_147, hg_147, hr⟩ := rd_e hr
              refine va_iald hx hb hK hP 1 0 rfl rfl hg_147 dX7_happens_104 ?_
              refine tp_ eg_147 ?_
              refine lv_iconst (v := (1 : Int32)) hx hb dX7_happens_105 (by decide) ?_
              refine lv_isub hx hb dX7_happens_106 ?_
              obtain ⟨w_148, ew_148, hw_148, hr⟩ := wr_e hr
              refine va_iast hx hb hK hP (hD.fst rfl) hS 1 0 rfl rfl hw_148 dX7_happens_107 (fun H locs hP _ hS => ?_)
              rw [← ew_148] at hP
              have hP : va_P (dC, dI) vwCl [(a_o, .inr (6, [.ref a_o_g, .ref a_o_kept, .ref a_o_was, .int o_isKept, .ref a_o_triangle, .int o_takenBy, .ref a_o_text, .int o_fed, .int o_place, .int o_letter, .int o_first, .int o_second, .ref a_o_sort, .ref a_o_size, .ref a_o_items])), (a_o_g, .inl (cI, 64, .inl w_148))] H := hP
              refine lv_iconst (v := (2 : Int32)) hx hb dX7_happens_108 (by decide) ?_
              refine lv_iload_n hx hb dX7_happens_109 rfl (lv_at hl 2 rfl) ?_
              refine lv_imul hx hb dX7_happens_110 ?_
              refine lv_istore_n (lv' := [(3, .int ((2 : Int32) * p1)), (0, .ref a_o), (1, .int p0), (2, .int p1)]) hx hb dX7_happens_111 rfl hl (by decide) rfl (fun ls hl => ?_)
              have hL112 : ∀  (k_112 : (Nat → Int32) → Option ((Nat → Int32))) (hk : ∀ (xc_o_g_112 : Nat → Int32) (ls : Array Slot), lv_has ls 4 [] → ∀ (H : Heap) (locs : List Loc), va_P (dC, dI) vwCl [(a_o, .inr (6, [.ref a_o_g, .ref a_o_kept, .ref a_o_was, .int o_isKept, .ref a_o_triangle, .int o_takenBy, .ref a_o_text, .int o_fed, .int o_place, .int o_letter, .int o_first, .int o_second, .ref a_o_sort, .ref a_o_size, .ref a_o_items])), (a_o_g, .inl (cI, 64, .inl xc_o_g_112))] H → va_S A s.heap H locs →  k_112 xc_o_g_112 = some r → W p l e rmX7_happens s m args below meth c H locs 0 0 Q (F0 m 147 ls [])) (fuel : Nat) (v3_112 : Int32) (o_g_112 : Nat → Int32) (ls : Array Slot), lv_has ls 4 [(0, .ref a_o), (3, .int v3_112)] → ∀ (H : Heap) (locs : List Loc), va_P (dC, dI) vwCl [(a_o, .inr (6, [.ref a_o_g, .ref a_o_kept, .ref a_o_was, .int o_isKept, .ref a_o_triangle, .int o_takenBy, .ref a_o_text, .int o_fed, .int o_place, .int o_letter, .int o_first, .int o_second, .ref a_o_sort, .ref a_o_size, .ref a_o_items])), (a_o_g, .inl (cI, 64, .inl o_g_112))] H → va_S A s.heap H locs → f_X7_happens_L112 k_112  fuel v3_112 o_g_112 = some r → W p l e rmX7_happens s m args below meth c H locs 0 0 Q (F0 m 112 ls []) := by
                intro k_112 hk fuel
                induction fuel with
                | zero =>
                  intro v3_112 o_g_112 ls hl H locs hP hS hr
                  rw [f_X7_happens_L112_z] at hr
                  cases hr
                | succ fuel ih =>
                  intro v3_112 o_g_112 ls hl H locs hP hS hr
                  rw [f_X7_happens_L112_s] at hr
                  refine lv_iload_n hx hb dX7_happens_112 rfl (lv_at hl 1 rfl) ?_
                  refine lv_iconst (v := (2 : Int32)) hx hb dX7_happens_113 (by decide) ?_
                  refine lv_aload_n hx hb dX7_happens_114 rfl (lv_at hl 0 rfl) ?_
                  refine va_get (D := (dC, dI)) (ci := 6) (v := .ref a_o_g) (C := RX7) (T := TX7) (N := 15) hx hb hts iX7 hown hK hP 0 rfl rfl 0 (by decide) (hts (.fieldLink RX7 11 "PascalRowsModel" "g" "[I") (List.mem_of_getElem? (i := 1) rfl)) (fun _ h9 => h9) rfl dX7_happens_115 ?_
                  refine lv_iconst (v := (4 : Int32)) hx hb dX7_happens_118 (by decide) ?_
                  obtain ⟨g_149, eg_149, hg_149, hr⟩ := rd_e hr
                  refine va_iald hx hb hK hP 1 0 rfl rfl hg_149 dX7_happens_119 ?_
                  refine tp_ eg_149 ?_
                  refine lv_imul hx hb dX7_happens_120 ?_
                  refine lv_icmp_ge (tgt := 147) hx hb dX7_happens_121 (by decide) (fun c_150 => ?_) (fun c_150 => ?_)
                  · have hr := ite_p hr c_150
                    exact hk o_g_112 ls (lv_sub hl [] rfl) H locs hP hS hr
                  · have hr := ite_n hr c_150
                    refine lv_aload_n hx hb dX7_happens_124 rfl (lv_at hl 0 rfl) ?_
                    refine va_get (D := (dC, dI)) (ci := 6) (v := .ref a_o_g) (C := RX7) (T := TX7) (N := 15) hx hb hts iX7 hown hK hP 0 rfl rfl 0 (by decide) (hts (.fieldLink RX7 11 "PascalRowsModel" "g" "[I") (List.mem_of_getElem? (i := 1) rfl)) (fun _ h9 => h9) rfl dX7_happens_125 ?_
                    refine lv_iconst (v := (5 : Int32)) hx hb dX7_happens_128 (by decide) ?_
                    refine lv_iload_n hx hb dX7_happens_129 rfl (lv_at hl 1 rfl) ?_
                    refine lv_iadd hx hb dX7_happens_130 ?_
                    refine lv_aload_n hx hb dX7_happens_131 rfl (lv_at hl 0 rfl) ?_
                    refine va_get (D := (dC, dI)) (ci := 6) (v := .ref a_o_g) (C := RX7) (T := TX7) (N := 15) hx hb hts iX7 hown hK hP 0 rfl rfl 0 (by decide) (hts (.fieldLink RX7 11 "PascalRowsModel" "g" "[I") (List.mem_of_getElem? (i := 1) rfl)) (fun _ h9 => h9) rfl dX7_happens_132 ?_
                    refine lv_bipush (v := (7 : Int32)) hx hb dX7_happens_135 (by decide) ?_
                    refine lv_iload_n hx hb dX7_happens_137 rfl (lv_at hl 1 rfl) ?_
                    refine lv_iadd hx hb dX7_happens_138 ?_
                    obtain ⟨g_151, eg_151, hg_151, hr⟩ := rd_e hr
                    refine va_iald hx hb hK hP 1 0 rfl rfl hg_151 dX7_happens_139 ?_
                    refine tp_ eg_151 ?_
                    obtain ⟨w_152, ew_152, hw_152, hr⟩ := wr_e hr
                    refine va_iast hx hb hK hP (hD.fst rfl) hS 1 0 rfl rfl hw_152 dX7_happens_140 (fun H locs hP _ hS => ?_)
                    rw [← ew_152] at hP
                    have hP : va_P (dC, dI) vwCl [(a_o, .inr (6, [.ref a_o_g, .ref a_o_kept, .ref a_o_was, .int o_isKept, .ref a_o_triangle, .int o_takenBy, .ref a_o_text, .int o_fed, .int o_place, .int o_letter, .int o_first, .int o_second, .ref a_o_sort, .ref a_o_size, .ref a_o_items])), (a_o_g, .inl (cI, 64, .inl w_152))] H := hP
                    refine lv_iinc (v := (v3_112 + (1 : Int32))) (lv' := [(3, .int (v3_112 + (1 : Int32))), (0, .ref a_o)]) hx hb dX7_happens_141 hl (k := 1) rfl (congrArg (fun z => v3_112 + z) (by decide)) (by decide) rfl (fun ls hl => ?_)
                    refine lv_goto (tgt := 112) hx hb dX7_happens_144 (by decide) ?_
                    exact ih (v3_112 + (1 : Int32)) w_152 ls (lv_sub hl [1, 0] rfl) H locs hP hS hr
              refine hL112  _ (fun xc_o_g_112 ls hl H locs hP hS hr => ?_) 5000 ((2 : Int32) * p1) w_148 ls (lv_sub hl [1, 0] rfl) H locs hP hS hr
              obtain rfl := Option.some.inj hr
              exact hret H locs _ hP hS (fun Qc free hq hf => W.vret hx hb hrt hq hf dX7_happens_147 hlocks)
        · have hr := ite_p hr c_143
          refine lv_aload_n hx hb dX7_happens_64 rfl (lv_at hl 0 rfl) ?_
          refine va_get (D := (dC, dI)) (ci := 6) (v := .ref a_o_g) (C := RX7) (T := TX7) (N := 15) hx hb hts iX7 hown hK hP 0 rfl rfl 0 (by decide) (hts (.fieldLink RX7 11 "PascalRowsModel" "g" "[I") (List.mem_of_getElem? (i := 1) rfl)) (fun _ h9 => h9) rfl dX7_happens_65 ?_
          refine lv_iconst (v := (2 : Int32)) hx hb dX7_happens_68 (by decide) ?_
          refine lv_bipush (v := (127 : Int32)) hx hb dX7_happens_69 (by decide) ?_
          refine lv_aload_n hx hb dX7_happens_71 rfl (lv_at hl 0 rfl) ?_
          refine va_get (D := (dC, dI)) (ci := 6) (v := .ref a_o_g) (C := RX7) (T := TX7) (N := 15) hx hb hts iX7 hown hK hP 0 rfl rfl 0 (by decide) (hts (.fieldLink RX7 11 "PascalRowsModel" "g" "[I") (List.mem_of_getElem? (i := 1) rfl)) (fun _ h9 => h9) rfl dX7_happens_72 ?_
          refine lv_iconst (v := (2 : Int32)) hx hb dX7_happens_75 (by decide) ?_
          obtain ⟨g_153, eg_153, hg_153, hr⟩ := rd_e hr
          refine va_iald hx hb hK hP 1 0 rfl rfl hg_153 dX7_happens_76 ?_
          refine tp_ eg_153 ?_
          refine lv_iload_n hx hb dX7_happens_77 rfl (lv_at hl 2 rfl) ?_
          refine lv_iadd hx hb dX7_happens_78 ?_
          refine va_mmin hx hb (hml.trans hl.1.symm) hown (hts (.methodLink RX7 195 Lib.Math.min.name) (List.mem_of_getElem? (i := 2) rfl)) (hts (.static Lib.Math.min.name) (List.mem_of_getElem? (i := 3) rfl)) (hts (.initialized "java/lang/Math") (List.mem_of_getElem? (i := 4) rfl)) (hts (.code Lib.Math.min.name Lib.Math.min.code 2 (some .int)) (List.mem_of_getElem? (i := 5) rfl)) (Nat.le_of_ble_eq_true rfl) (Nat.le_of_ble_eq_true rfl) (Nat.zero_le _) (Nat.zero_le _) dX7_happens_79 ?_
          obtain ⟨w_154, ew_154, hw_154, hr⟩ := wr_e hr
          refine va_iast hx hb hK hP (hD.fst rfl) hS 1 0 rfl rfl hw_154 dX7_happens_82 (fun H locs hP _ hS => ?_)
          rw [← ew_154] at hP
          have hP : va_P (dC, dI) vwCl [(a_o, .inr (6, [.ref a_o_g, .ref a_o_kept, .ref a_o_was, .int o_isKept, .ref a_o_triangle, .int o_takenBy, .ref a_o_text, .int o_fed, .int o_place, .int o_letter, .int o_first, .int o_second, .ref a_o_sort, .ref a_o_size, .ref a_o_items])), (a_o_g, .inl (cI, 64, .inl w_154))] H := hP
          refine lv_iload_n hx hb dX7_happens_83 rfl (lv_at hl 1 rfl) ?_
          refine lv_iconst (v := (3 : Int32)) hx hb dX7_happens_84 (by decide) ?_
          refine lv_icmp_ne (tgt := 147) hx hb dX7_happens_85 (by decide) (fun c_155 => ?_) (fun c_155 => ?_)
          · have hr := ite_n hr c_155
            obtain rfl := Option.some.inj hr
            exact hret H locs _ hP hS (fun Qc free hq hf => W.vret hx hb hrt hq hf dX7_happens_147 hlocks)
          · have hr := ite_p hr c_155
            refine lv_iload_n hx hb dX7_happens_88 rfl (lv_at hl 2 rfl) ?_
            refine lv_aload_n hx hb dX7_happens_89 rfl (lv_at hl 0 rfl) ?_
            refine va_get (D := (dC, dI)) (ci := 6) (v := .ref a_o_g) (C := RX7) (T := TX7) (N := 15) hx hb hts iX7 hown hK hP 0 rfl rfl 0 (by decide) (hts (.fieldLink RX7 11 "PascalRowsModel" "g" "[I") (List.mem_of_getElem? (i := 1) rfl)) (fun _ h9 => h9) rfl dX7_happens_90 ?_
            refine lv_iconst (v := (4 : Int32)) hx hb dX7_happens_93 (by decide) ?_
            obtain ⟨g_156, eg_156, hg_156, hr⟩ := rd_e hr
            refine va_iald hx hb hK hP 1 0 rfl rfl hg_156 dX7_happens_94 ?_
            refine tp_ eg_156 ?_
            refine lv_icmp_ge (tgt := 147) hx hb dX7_happens_95 (by decide) (fun c_157 => ?_) (fun c_157 => ?_)
            · have hr := ite_p hr c_157
              obtain rfl := Option.some.inj hr
              exact hret H locs _ hP hS (fun Qc free hq hf => W.vret hx hb hrt hq hf dX7_happens_147 hlocks)
            · have hr := ite_n hr c_157
              refine lv_aload_n hx hb dX7_happens_98 rfl (lv_at hl 0 rfl) ?_
              refine va_get (D := (dC, dI)) (ci := 6) (v := .ref a_o_g) (C := RX7) (T := TX7) (N := 15) hx hb hts iX7 hown hK hP 0 rfl rfl 0 (by decide) (hts (.fieldLink RX7 11 "PascalRowsModel" "g" "[I") (List.mem_of_getElem? (i := 1) rfl)) (fun _ h9 => h9) rfl dX7_happens_99 ?_
              refine lv_iconst (v := (4 : Int32)) hx hb dX7_happens_102 (by decide) ?_
              refine lv_dup2_11 hx hb dX7_happens_103 rfl rfl ?_
              obtain ⟨g_158, eg_158, hg_158, hr⟩ := rd_e hr
              refine va_iald hx hb hK hP 1 0 rfl rfl hg_158 dX7_happens_104 ?_
              refine tp_ eg_158 ?_
              refine lv_iconst (v := (1 : Int32)) hx hb dX7_happens_105 (by decide) ?_
              refine lv_isub hx hb dX7_happens_106 ?_
              obtain ⟨w_159, ew_159, hw_159, hr⟩ := wr_e hr
              refine va_iast hx hb hK hP (hD.fst rfl) hS 1 0 rfl rfl hw_159 dX7_happens_107 (fun H locs hP _ hS => ?_)
              rw [← ew_159] at hP
              have hP : va_P (dC, dI) vwCl [(a_o, .inr (6, [.ref a_o_g, .ref a_o_kept, .ref a_o_was, .int o_isKept, .ref a_o_triangle, .int o_takenBy, .ref a_o_text, .int o_fed, .int o_place, .int o_letter, .int o_first, .int o_second, .ref a_o_sort, .ref a_o_size, .ref a_o_items])), (a_o_g, .inl (cI, 64, .inl w_159))] H := hP
              refine lv_iconst (v := (2 : Int32)) hx hb dX7_happens_108 (by decide) ?_
              refine lv_iload_n hx hb dX7_happens_109 rfl (lv_at hl 2 rfl) ?_
              refine lv_imul hx hb dX7_happens_110 ?_
              refine lv_istore_n (lv' := [(3, .int ((2 : Int32) * p1)), (0, .ref a_o), (1, .int p0), (2, .int p1)]) hx hb dX7_happens_111 rfl hl (by decide) rfl (fun ls hl => ?_)
              have hL112 : ∀  (k_112 : (Nat → Int32) → Option ((Nat → Int32))) (hk : ∀ (xc_o_g_112 : Nat → Int32) (ls : Array Slot), lv_has ls 4 [] → ∀ (H : Heap) (locs : List Loc), va_P (dC, dI) vwCl [(a_o, .inr (6, [.ref a_o_g, .ref a_o_kept, .ref a_o_was, .int o_isKept, .ref a_o_triangle, .int o_takenBy, .ref a_o_text, .int o_fed, .int o_place, .int o_letter, .int o_first, .int o_second, .ref a_o_sort, .ref a_o_size, .ref a_o_items])), (a_o_g, .inl (cI, 64, .inl xc_o_g_112))] H → va_S A s.heap H locs →  k_112 xc_o_g_112 = some r → W p l e rmX7_happens s m args below meth c H locs 0 0 Q (F0 m 147 ls [])) (fuel : Nat) (v3_112 : Int32) (o_g_112 : Nat → Int32) (ls : Array Slot), lv_has ls 4 [(0, .ref a_o), (3, .int v3_112)] → ∀ (H : Heap) (locs : List Loc), va_P (dC, dI) vwCl [(a_o, .inr (6, [.ref a_o_g, .ref a_o_kept, .ref a_o_was, .int o_isKept, .ref a_o_triangle, .int o_takenBy, .ref a_o_text, .int o_fed, .int o_place, .int o_letter, .int o_first, .int o_second, .ref a_o_sort, .ref a_o_size, .ref a_o_items])), (a_o_g, .inl (cI, 64, .inl o_g_112))] H → va_S A s.heap H locs → f_X7_happens_L112 k_112  fuel v3_112 o_g_112 = some r → W p l e rmX7_happens s m args below meth c H locs 0 0 Q (F0 m 112 ls []) := by
                intro k_112 hk fuel
                induction fuel with
                | zero =>
                  intro v3_112 o_g_112 ls hl H locs hP hS hr
                  rw [f_X7_happens_L112_z] at hr
                  cases hr
                | succ fuel ih =>
                  intro v3_112 o_g_112 ls hl H locs hP hS hr
                  rw [f_X7_happens_L112_s] at hr
                  refine lv_iload_n hx hb dX7_happens_112 rfl (lv_at hl 1 rfl) ?_
                  refine lv_iconst (v := (2 : Int32)) hx hb dX7_happens_113 (by decide) ?_
                  refine lv_aload_n hx hb dX7_happens_114 rfl (lv_at hl 0 rfl) ?_
                  refine va_get (D := (dC, dI)) (ci := 6) (v := .ref a_o_g) (C := RX7) (T := TX7) (N := 15) hx hb hts iX7 hown hK hP 0 rfl rfl 0 (by decide) (hts (.fieldLink RX7 11 "PascalRowsModel" "g" "[I") (List.mem_of_getElem? (i := 1) rfl)) (fun _ h9 => h9) rfl dX7_happens_115 ?_
                  refine lv_iconst (v := (4 : Int32)) hx hb dX7_happens_118 (by decide) ?_
                  obtain ⟨g_160, eg_160, hg_160, hr⟩ := rd_e hr
                  refine va_iald hx hb hK hP 1 0 rfl rfl hg_160 dX7_happens_119 ?_
                  refine tp_ eg_160 ?_
                  refine lv_imul hx hb dX7_happens_120 ?_
                  refine lv_icmp_ge (tgt := 147) hx hb dX7_happens_121 (by decide) (fun c_161 => ?_) (fun c_161 => ?_)
                  · have hr := ite_p hr c_161
                    exact hk o_g_112 ls (lv_sub hl [] rfl) H locs hP hS hr
                  · have hr := ite_n hr c_161
                    refine lv_aload_n hx hb dX7_happens_124 rfl (lv_at hl 0 rfl) ?_
                    refine va_get (D := (dC, dI)) (ci := 6) (v := .ref a_o_g) (C := RX7) (T := TX7) (N := 15) hx hb hts iX7 hown hK hP 0 rfl rfl 0 (by decide) (hts (.fieldLink RX7 11 "PascalRowsModel" "g" "[I") (List.mem_of_getElem? (i := 1) rfl)) (fun _ h9 => h9) rfl dX7_happens_125 ?_
                    refine lv_iconst (v := (5 : Int32)) hx hb dX7_happens_128 (by decide) ?_
                    refine lv_iload_n hx hb dX7_happens_129 rfl (lv_at hl 1 rfl) ?_
                    refine lv_iadd hx hb dX7_happens_130 ?_
                    refine lv_aload_n hx hb dX7_happens_131 rfl (lv_at hl 0 rfl) ?_
                    refine va_get (D := (dC, dI)) (ci := 6) (v := .ref a_o_g) (C := RX7) (T := TX7) (N := 15) hx hb hts iX7 hown hK hP 0 rfl rfl 0 (by decide) (hts (.fieldLink RX7 11 "PascalRowsModel" "g" "[I") (List.mem_of_getElem? (i := 1) rfl)) (fun _ h9 => h9) rfl dX7_happens_132 ?_
                    refine lv_bipush (v := (7 : Int32)) hx hb dX7_happens_135 (by decide) ?_
                    refine lv_iload_n hx hb dX7_happens_137 rfl (lv_at hl 1 rfl) ?_
                    refine lv_iadd hx hb dX7_happens_138 ?_
                    obtain ⟨g_162, eg_162, hg_162, hr⟩ := rd_e hr
                    refine va_iald hx hb hK hP 1 0 rfl rfl hg_162 dX7_happens_139 ?_
                    refine tp_ eg_162 ?_
                    obtain ⟨w_163, ew_163, hw_163, hr⟩ := wr_e hr
                    refine va_iast hx hb hK hP (hD.fst rfl) hS 1 0 rfl rfl hw_163 dX7_happens_140 (fun H locs hP _ hS => ?_)
                    rw [← ew_163] at hP
                    have hP : va_P (dC, dI) vwCl [(a_o, .inr (6, [.ref a_o_g, .ref a_o_kept, .ref a_o_was, .int o_isKept, .ref a_o_triangle, .int o_takenBy, .ref a_o_text, .int o_fed, .int o_place, .int o_letter, .int o_first, .int o_second, .ref a_o_sort, .ref a_o_size, .ref a_o_items])), (a_o_g, .inl (cI, 64, .inl w_163))] H := hP
                    refine lv_iinc (v := (v3_112 + (1 : Int32))) (lv' := [(3, .int (v3_112 + (1 : Int32))), (0, .ref a_o)]) hx hb dX7_happens_141 hl (k := 1) rfl (congrArg (fun z => v3_112 + z) (by decide)) (by decide) rfl (fun ls hl => ?_)
                    refine lv_goto (tgt := 112) hx hb dX7_happens_144 (by decide) ?_
                    exact ih (v3_112 + (1 : Int32)) w_163 ls (lv_sub hl [1, 0] rfl) H locs hP hS hr
              refine hL112  _ (fun xc_o_g_112 ls hl H locs hP hS hr => ?_) 5000 ((2 : Int32) * p1) w_159 ls (lv_sub hl [1, 0] rfl) H locs hP hS hr
              obtain rfl := Option.some.inj hr
              exact hret H locs _ hP hS (fun Qc free hq hf => W.vret hx hb hrt hq hf dX7_happens_147 hlocks)
      · have hr := ite_p hr c_142
        refine lv_aload_n hx hb dX7_happens_52 rfl (lv_at hl 0 rfl) ?_
        refine va_get (D := (dC, dI)) (ci := 6) (v := .ref a_o_g) (C := RX7) (T := TX7) (N := 15) hx hb hts iX7 hown hK hP 0 rfl rfl 0 (by decide) (hts (.fieldLink RX7 11 "PascalRowsModel" "g" "[I") (List.mem_of_getElem? (i := 1) rfl)) (fun _ h9 => h9) rfl dX7_happens_53 ?_
        refine lv_iconst (v := (1 : Int32)) hx hb dX7_happens_56 (by decide) ?_
        refine lv_iload_n hx hb dX7_happens_57 rfl (lv_at hl 2 rfl) ?_
        obtain ⟨w_164, ew_164, hw_164, hr⟩ := wr_e hr
        refine va_iast hx hb hK hP (hD.fst rfl) hS 1 0 rfl rfl hw_164 dX7_happens_58 (fun H locs hP _ hS => ?_)
        rw [← ew_164] at hP
        have hP : va_P (dC, dI) vwCl [(a_o, .inr (6, [.ref a_o_g, .ref a_o_kept, .ref a_o_was, .int o_isKept, .ref a_o_triangle, .int o_takenBy, .ref a_o_text, .int o_fed, .int o_place, .int o_letter, .int o_first, .int o_second, .ref a_o_sort, .ref a_o_size, .ref a_o_items])), (a_o_g, .inl (cI, 64, .inl w_164))] H := hP
        refine lv_iload_n hx hb dX7_happens_59 rfl (lv_at hl 1 rfl) ?_
        refine lv_iconst (v := (2 : Int32)) hx hb dX7_happens_60 (by decide) ?_
        refine lv_icmp_ne (tgt := 83) hx hb dX7_happens_61 (by decide) (fun c_165 => ?_) (fun c_165 => ?_)
        · have hr := ite_n hr c_165
          refine lv_iload_n hx hb dX7_happens_83 rfl (lv_at hl 1 rfl) ?_
          refine lv_iconst (v := (3 : Int32)) hx hb dX7_happens_84 (by decide) ?_
          refine lv_icmp_ne (tgt := 147) hx hb dX7_happens_85 (by decide) (fun c_166 => ?_) (fun c_166 => ?_)
          · have hr := ite_n hr c_166
            obtain rfl := Option.some.inj hr
            exact hret H locs _ hP hS (fun Qc free hq hf => W.vret hx hb hrt hq hf dX7_happens_147 hlocks)
          · have hr := ite_p hr c_166
            refine lv_iload_n hx hb dX7_happens_88 rfl (lv_at hl 2 rfl) ?_
            refine lv_aload_n hx hb dX7_happens_89 rfl (lv_at hl 0 rfl) ?_
            refine va_get (D := (dC, dI)) (ci := 6) (v := .ref a_o_g) (C := RX7) (T := TX7) (N := 15) hx hb hts iX7 hown hK hP 0 rfl rfl 0 (by decide) (hts (.fieldLink RX7 11 "PascalRowsModel" "g" "[I") (List.mem_of_getElem? (i := 1) rfl)) (fun _ h9 => h9) rfl dX7_happens_90 ?_
            refine lv_iconst (v := (4 : Int32)) hx hb dX7_happens_93 (by decide) ?_
            obtain ⟨g_167, eg_167, hg_167, hr⟩ := rd_e hr
            refine va_iald hx hb hK hP 1 0 rfl rfl hg_167 dX7_happens_94 ?_
            refine tp_ eg_167 ?_
            refine lv_icmp_ge (tgt := 147) hx hb dX7_happens_95 (by decide) (fun c_168 => ?_) (fun c_168 => ?_)
            · have hr := ite_p hr c_168
              obtain rfl := Option.some.inj hr
              exact hret H locs _ hP hS (fun Qc free hq hf => W.vret hx hb hrt hq hf dX7_happens_147 hlocks)
            · have hr := ite_n hr c_168
              refine lv_aload_n hx hb dX7_happens_98 rfl (lv_at hl 0 rfl) ?_
              refine va_get (D := (dC, dI)) (ci := 6) (v := .ref a_o_g) (C := RX7) (T := TX7) (N := 15) hx hb hts iX7 hown hK hP 0 rfl rfl 0 (by decide) (hts (.fieldLink RX7 11 "PascalRowsModel" "g" "[I") (List.mem_of_getElem? (i := 1) rfl)) (fun _ h9 => h9) rfl dX7_happens_99 ?_
              refine lv_iconst (v := (4 : Int32)) hx hb dX7_happens_102 (by decide) ?_
              refine lv_dup2_11 hx hb dX7_happens_103 rfl rfl ?_
              obtain ⟨g_169, eg_169, hg_169, hr⟩ := rd_e hr
              refine va_iald hx hb hK hP 1 0 rfl rfl hg_169 dX7_happens_104 ?_
              refine tp_ eg_169 ?_
              refine lv_iconst (v := (1 : Int32)) hx hb dX7_happens_105 (by decide) ?_
              refine lv_isub hx hb dX7_happens_106 ?_
              obtain ⟨w_170, ew_170, hw_170, hr⟩ := wr_e hr
              refine va_iast hx hb hK hP (hD.fst rfl) hS 1 0 rfl rfl hw_170 dX7_happens_107 (fun H locs hP _ hS => ?_)
              rw [← ew_170] at hP
              have hP : va_P (dC, dI) vwCl [(a_o, .inr (6, [.ref a_o_g, .ref a_o_kept, .ref a_o_was, .int o_isKept, .ref a_o_triangle, .int o_takenBy, .ref a_o_text, .int o_fed, .int o_place, .int o_letter, .int o_first, .int o_second, .ref a_o_sort, .ref a_o_size, .ref a_o_items])), (a_o_g, .inl (cI, 64, .inl w_170))] H := hP
              refine lv_iconst (v := (2 : Int32)) hx hb dX7_happens_108 (by decide) ?_
              refine lv_iload_n hx hb dX7_happens_109 rfl (lv_at hl 2 rfl) ?_
              refine lv_imul hx hb dX7_happens_110 ?_
              refine lv_istore_n (lv' := [(3, .int ((2 : Int32) * p1)), (0, .ref a_o), (1, .int p0), (2, .int p1)]) hx hb dX7_happens_111 rfl hl (by decide) rfl (fun ls hl => ?_)
              have hL112 : ∀  (k_112 : (Nat → Int32) → Option ((Nat → Int32))) (hk : ∀ (xc_o_g_112 : Nat → Int32) (ls : Array Slot), lv_has ls 4 [] → ∀ (H : Heap) (locs : List Loc), va_P (dC, dI) vwCl [(a_o, .inr (6, [.ref a_o_g, .ref a_o_kept, .ref a_o_was, .int o_isKept, .ref a_o_triangle, .int o_takenBy, .ref a_o_text, .int o_fed, .int o_place, .int o_letter, .int o_first, .int o_second, .ref a_o_sort, .ref a_o_size, .ref a_o_items])), (a_o_g, .inl (cI, 64, .inl xc_o_g_112))] H → va_S A s.heap H locs →  k_112 xc_o_g_112 = some r → W p l e rmX7_happens s m args below meth c H locs 0 0 Q (F0 m 147 ls [])) (fuel : Nat) (v3_112 : Int32) (o_g_112 : Nat → Int32) (ls : Array Slot), lv_has ls 4 [(0, .ref a_o), (3, .int v3_112)] → ∀ (H : Heap) (locs : List Loc), va_P (dC, dI) vwCl [(a_o, .inr (6, [.ref a_o_g, .ref a_o_kept, .ref a_o_was, .int o_isKept, .ref a_o_triangle, .int o_takenBy, .ref a_o_text, .int o_fed, .int o_place, .int o_letter, .int o_first, .int o_second, .ref a_o_sort, .ref a_o_size, .ref a_o_items])), (a_o_g, .inl (cI, 64, .inl o_g_112))] H → va_S A s.heap H locs → f_X7_happens_L112 k_112  fuel v3_112 o_g_112 = some r → W p l e rmX7_happens s m args below meth c H locs 0 0 Q (F0 m 112 ls []) := by
                intro k_112 hk fuel
                induction fuel with
                | zero =>
                  intro v3_112 o_g_112 ls hl H locs hP hS hr
                  rw [f_X7_happens_L112_z] at hr
                  cases hr
                | succ fuel ih =>
                  intro v3_112 o_g_112 ls hl H locs hP hS hr
                  rw [f_X7_happens_L112_s] at hr
                  refine lv_iload_n hx hb dX7_happens_112 rfl (lv_at hl 1 rfl) ?_
                  refine lv_iconst (v := (2 : Int32)) hx hb dX7_happens_113 (by decide) ?_
                  refine lv_aload_n hx hb dX7_happens_114 rfl (lv_at hl 0 rfl) ?_
                  refine va_get (D := (dC, dI)) (ci := 6) (v := .ref a_o_g) (C := RX7) (T := TX7) (N := 15) hx hb hts iX7 hown hK hP 0 rfl rfl 0 (by decide) (hts (.fieldLink RX7 11 "PascalRowsModel" "g" "[I") (List.mem_of_getElem? (i := 1) rfl)) (fun _ h9 => h9) rfl dX7_happens_115 ?_
                  refine lv_iconst (v := (4 : Int32)) hx hb dX7_happens_118 (by decide) ?_
                  obtain ⟨g_171, eg_171, hg_171, hr⟩ := rd_e hr
                  refine va_iald hx hb hK hP 1 0 rfl rfl hg_171 dX7_happens_119 ?_
                  refine tp_ eg_171 ?_
                  refine lv_imul hx hb dX7_happens_120 ?_
                  refine lv_icmp_ge (tgt := 147) hx hb dX7_happens_121 (by decide) (fun c_172 => ?_) (fun c_172 => ?_)
                  · have hr := ite_p hr c_172
                    exact hk o_g_112 ls (lv_sub hl [] rfl) H locs hP hS hr
                  · have hr := ite_n hr c_172
                    refine lv_aload_n hx hb dX7_happens_124 rfl (lv_at hl 0 rfl) ?_
                    refine va_get (D := (dC, dI)) (ci := 6) (v := .ref a_o_g) (C := RX7) (T := TX7) (N := 15) hx hb hts iX7 hown hK hP 0 rfl rfl 0 (by decide) (hts (.fieldLink RX7 11 "PascalRowsModel" "g" "[I") (List.mem_of_getElem? (i := 1) rfl)) (fun _ h9 => h9) rfl dX7_happens_125 ?_
                    refine lv_iconst (v := (5 : Int32)) hx hb dX7_happens_128 (by decide) ?_
                    refine lv_iload_n hx hb dX7_happens_129 rfl (lv_at hl 1 rfl) ?_
                    refine lv_iadd hx hb dX7_happens_130 ?_
                    refine lv_aload_n hx hb dX7_happens_131 rfl (lv_at hl 0 rfl) ?_
                    refine va_get (D := (dC, dI)) (ci := 6) (v := .ref a_o_g) (C := RX7) (T := TX7) (N := 15) hx hb hts iX7 hown hK hP 0 rfl rfl 0 (by decide) (hts (.fieldLink RX7 11 "PascalRowsModel" "g" "[I") (List.mem_of_getElem? (i := 1) rfl)) (fun _ h9 => h9) rfl dX7_happens_132 ?_
                    refine lv_bipush (v := (7 : Int32)) hx hb dX7_happens_135 (by decide) ?_
                    refine lv_iload_n hx hb dX7_happens_137 rfl (lv_at hl 1 rfl) ?_
                    refine lv_iadd hx hb dX7_happens_138 ?_
                    obtain ⟨g_173, eg_173, hg_173, hr⟩ := rd_e hr
                    refine va_iald hx hb hK hP 1 0 rfl rfl hg_173 dX7_happens_139 ?_
                    refine tp_ eg_173 ?_
                    obtain ⟨w_174, ew_174, hw_174, hr⟩ := wr_e hr
                    refine va_iast hx hb hK hP (hD.fst rfl) hS 1 0 rfl rfl hw_174 dX7_happens_140 (fun H locs hP _ hS => ?_)
                    rw [← ew_174] at hP
                    have hP : va_P (dC, dI) vwCl [(a_o, .inr (6, [.ref a_o_g, .ref a_o_kept, .ref a_o_was, .int o_isKept, .ref a_o_triangle, .int o_takenBy, .ref a_o_text, .int o_fed, .int o_place, .int o_letter, .int o_first, .int o_second, .ref a_o_sort, .ref a_o_size, .ref a_o_items])), (a_o_g, .inl (cI, 64, .inl w_174))] H := hP
                    refine lv_iinc (v := (v3_112 + (1 : Int32))) (lv' := [(3, .int (v3_112 + (1 : Int32))), (0, .ref a_o)]) hx hb dX7_happens_141 hl (k := 1) rfl (congrArg (fun z => v3_112 + z) (by decide)) (by decide) rfl (fun ls hl => ?_)
                    refine lv_goto (tgt := 112) hx hb dX7_happens_144 (by decide) ?_
                    exact ih (v3_112 + (1 : Int32)) w_174 ls (lv_sub hl [1, 0] rfl) H locs hP hS hr
              refine hL112  _ (fun xc_o_g_112 ls hl H locs hP hS hr => ?_) 5000 ((2 : Int32) * p1) w_170 ls (lv_sub hl [1, 0] rfl) H locs hP hS hr
              obtain rfl := Option.some.inj hr
              exact hret H locs _ hP hS (fun Qc free hq hf => W.vret hx hb hrt hq hf dX7_happens_147 hlocks)
        · have hr := ite_p hr c_165
          refine lv_aload_n hx hb dX7_happens_64 rfl (lv_at hl 0 rfl) ?_
          refine va_get (D := (dC, dI)) (ci := 6) (v := .ref a_o_g) (C := RX7) (T := TX7) (N := 15) hx hb hts iX7 hown hK hP 0 rfl rfl 0 (by decide) (hts (.fieldLink RX7 11 "PascalRowsModel" "g" "[I") (List.mem_of_getElem? (i := 1) rfl)) (fun _ h9 => h9) rfl dX7_happens_65 ?_
          refine lv_iconst (v := (2 : Int32)) hx hb dX7_happens_68 (by decide) ?_
          refine lv_bipush (v := (127 : Int32)) hx hb dX7_happens_69 (by decide) ?_
          refine lv_aload_n hx hb dX7_happens_71 rfl (lv_at hl 0 rfl) ?_
          refine va_get (D := (dC, dI)) (ci := 6) (v := .ref a_o_g) (C := RX7) (T := TX7) (N := 15) hx hb hts iX7 hown hK hP 0 rfl rfl 0 (by decide) (hts (.fieldLink RX7 11 "PascalRowsModel" "g" "[I") (List.mem_of_getElem? (i := 1) rfl)) (fun _ h9 => h9) rfl dX7_happens_72 ?_
          refine lv_iconst (v := (2 : Int32)) hx hb dX7_happens_75 (by decide) ?_
          obtain ⟨g_175, eg_175, hg_175, hr⟩ := rd_e hr
          refine va_iald hx hb hK hP 1 0 rfl rfl hg_175 dX7_happens_76 ?_
          refine tp_ eg_175 ?_
          refine lv_iload_n hx hb dX7_happens_77 rfl (lv_at hl 2 rfl) ?_
          refine lv_iadd hx hb dX7_happens_78 ?_
          refine va_mmin hx hb (hml.trans hl.1.symm) hown (hts (.methodLink RX7 195 Lib.Math.min.name) (List.mem_of_getElem? (i := 2) rfl)) (hts (.static Lib.Math.min.name) (List.mem_of_getElem? (i := 3) rfl)) (hts (.initialized "java/lang/Math") (List.mem_of_getElem? (i := 4) rfl)) (hts (.code Lib.Math.min.name Lib.Math.min.code 2 (some .int)) (List.mem_of_getElem? (i := 5) rfl)) (Nat.le_of_ble_eq_true rfl) (Nat.le_of_ble_eq_true rfl) (Nat.zero_le _) (Nat.zero_le _) dX7_happens_79 ?_
          obtain ⟨w_176, ew_176, hw_176, hr⟩ := wr_e hr
          refine va_iast hx hb hK hP (hD.fst rfl) hS 1 0 rfl rfl hw_176 dX7_happens_82 (fun H locs hP _ hS => ?_)
          rw [← ew_176] at hP
          have hP : va_P (dC, dI) vwCl [(a_o, .inr (6, [.ref a_o_g, .ref a_o_kept, .ref a_o_was, .int o_isKept, .ref a_o_triangle, .int o_takenBy, .ref a_o_text, .int o_fed, .int o_place, .int o_letter, .int o_first, .int o_second, .ref a_o_sort, .ref a_o_size, .ref a_o_items])), (a_o_g, .inl (cI, 64, .inl w_176))] H := hP
          refine lv_iload_n hx hb dX7_happens_83 rfl (lv_at hl 1 rfl) ?_
          refine lv_iconst (v := (3 : Int32)) hx hb dX7_happens_84 (by decide) ?_
          refine lv_icmp_ne (tgt := 147) hx hb dX7_happens_85 (by decide) (fun c_177 => ?_) (fun c_177 => ?_)
          · have hr := ite_n hr c_177
            obtain rfl := Option.some.inj hr
            exact hret H locs _ hP hS (fun Qc free hq hf => W.vret hx hb hrt hq hf dX7_happens_147 hlocks)
          · have hr := ite_p hr c_177
            refine lv_iload_n hx hb dX7_happens_88 rfl (lv_at hl 2 rfl) ?_
            refine lv_aload_n hx hb dX7_happens_89 rfl (lv_at hl 0 rfl) ?_
            refine va_get (D := (dC, dI)) (ci := 6) (v := .ref a_o_g) (C := RX7) (T := TX7) (N := 15) hx hb hts iX7 hown hK hP 0 rfl rfl 0 (by decide) (hts (.fieldLink RX7 11 "PascalRowsModel" "g" "[I") (List.mem_of_getElem? (i := 1) rfl)) (fun _ h9 => h9) rfl dX7_happens_90 ?_
            refine lv_iconst (v := (4 : Int32)) hx hb dX7_happens_93 (by decide) ?_
            obtain ⟨g_178, eg_178, hg_178, hr⟩ := rd_e hr
            refine va_iald hx hb hK hP 1 0 rfl rfl hg_178 dX7_happens_94 ?_
            refine tp_ eg_178 ?_
            refine lv_icmp_ge (tgt := 147) hx hb dX7_happens_95 (by decide) (fun c_179 => ?_) (fun c_179 => ?_)
            · have hr := ite_p hr c_179
              obtain rfl := Option.some.inj hr
              exact hret H locs _ hP hS (fun Qc free hq hf => W.vret hx hb hrt hq hf dX7_happens_147 hlocks)
            · have hr := ite_n hr c_179
              refine lv_aload_n hx hb dX7_happens_98 rfl (lv_at hl 0 rfl) ?_
              refine va_get (D := (dC, dI)) (ci := 6) (v := .ref a_o_g) (C := RX7) (T := TX7) (N := 15) hx hb hts iX7 hown hK hP 0 rfl rfl 0 (by decide) (hts (.fieldLink RX7 11 "PascalRowsModel" "g" "[I") (List.mem_of_getElem? (i := 1) rfl)) (fun _ h9 => h9) rfl dX7_happens_99 ?_
              refine lv_iconst (v := (4 : Int32)) hx hb dX7_happens_102 (by decide) ?_
              refine lv_dup2_11 hx hb dX7_happens_103 rfl rfl ?_
              obtain ⟨g_180, eg_180, hg_180, hr⟩ := rd_e hr
              refine va_iald hx hb hK hP 1 0 rfl rfl hg_180 dX7_happens_104 ?_
              refine tp_ eg_180 ?_
              refine lv_iconst (v := (1 : Int32)) hx hb dX7_happens_105 (by decide) ?_
              refine lv_isub hx hb dX7_happens_106 ?_
              obtain ⟨w_181, ew_181, hw_181, hr⟩ := wr_e hr
              refine va_iast hx hb hK hP (hD.fst rfl) hS 1 0 rfl rfl hw_181 dX7_happens_107 (fun H locs hP _ hS => ?_)
              rw [← ew_181] at hP
              have hP : va_P (dC, dI) vwCl [(a_o, .inr (6, [.ref a_o_g, .ref a_o_kept, .ref a_o_was, .int o_isKept, .ref a_o_triangle, .int o_takenBy, .ref a_o_text, .int o_fed, .int o_place, .int o_letter, .int o_first, .int o_second, .ref a_o_sort, .ref a_o_size, .ref a_o_items])), (a_o_g, .inl (cI, 64, .inl w_181))] H := hP
              refine lv_iconst (v := (2 : Int32)) hx hb dX7_happens_108 (by decide) ?_
              refine lv_iload_n hx hb dX7_happens_109 rfl (lv_at hl 2 rfl) ?_
              refine lv_imul hx hb dX7_happens_110 ?_
              refine lv_istore_n (lv' := [(3, .int ((2 : Int32) * p1)), (0, .ref a_o), (1, .int p0), (2, .int p1)]) hx hb dX7_happens_111 rfl hl (by decide) rfl (fun ls hl => ?_)
              have hL112 : ∀  (k_112 : (Nat → Int32) → Option ((Nat → Int32))) (hk : ∀ (xc_o_g_112 : Nat → Int32) (ls : Array Slot), lv_has ls 4 [] → ∀ (H : Heap) (locs : List Loc), va_P (dC, dI) vwCl [(a_o, .inr (6, [.ref a_o_g, .ref a_o_kept, .ref a_o_was, .int o_isKept, .ref a_o_triangle, .int o_takenBy, .ref a_o_text, .int o_fed, .int o_place, .int o_letter, .int o_first, .int o_second, .ref a_o_sort, .ref a_o_size, .ref a_o_items])), (a_o_g, .inl (cI, 64, .inl xc_o_g_112))] H → va_S A s.heap H locs →  k_112 xc_o_g_112 = some r → W p l e rmX7_happens s m args below meth c H locs 0 0 Q (F0 m 147 ls [])) (fuel : Nat) (v3_112 : Int32) (o_g_112 : Nat → Int32) (ls : Array Slot), lv_has ls 4 [(0, .ref a_o), (3, .int v3_112)] → ∀ (H : Heap) (locs : List Loc), va_P (dC, dI) vwCl [(a_o, .inr (6, [.ref a_o_g, .ref a_o_kept, .ref a_o_was, .int o_isKept, .ref a_o_triangle, .int o_takenBy, .ref a_o_text, .int o_fed, .int o_place, .int o_letter, .int o_first, .int o_second, .ref a_o_sort, .ref a_o_size, .ref a_o_items])), (a_o_g, .inl (cI, 64, .inl o_g_112))] H → va_S A s.heap H locs → f_X7_happens_L112 k_112  fuel v3_112 o_g_112 = some r → W p l e rmX7_happens s m args below meth c H locs 0 0 Q (F0 m 112 ls []) := by
                intro k_112 hk fuel
                induction fuel with
                | zero =>
                  intro v3_112 o_g_112 ls hl H locs hP hS hr
                  rw [f_X7_happens_L112_z] at hr
                  cases hr
                | succ fuel ih =>
                  intro v3_112 o_g_112 ls hl H locs hP hS hr
                  rw [f_X7_happens_L112_s] at hr
                  refine lv_iload_n hx hb dX7_happens_112 rfl (lv_at hl 1 rfl) ?_
                  refine lv_iconst (v := (2 : Int32)) hx hb dX7_happens_113 (by decide) ?_
                  refine lv_aload_n hx hb dX7_happens_114 rfl (lv_at hl 0 rfl) ?_
                  refine va_get (D := (dC, dI)) (ci := 6) (v := .ref a_o_g) (C := RX7) (T := TX7) (N := 15) hx hb hts iX7 hown hK hP 0 rfl rfl 0 (by decide) (hts (.fieldLink RX7 11 "PascalRowsModel" "g" "[I") (List.mem_of_getElem? (i := 1) rfl)) (fun _ h9 => h9) rfl dX7_happens_115 ?_
                  refine lv_iconst (v := (4 : Int32)) hx hb dX7_happens_118 (by decide) ?_
                  obtain ⟨g_182, eg_182, hg_182, hr⟩ := rd_e hr
                  refine va_iald hx hb hK hP 1 0 rfl rfl hg_182 dX7_happens_119 ?_
                  refine tp_ eg_182 ?_
                  refine lv_imul hx hb dX7_happens_120 ?_
                  refine lv_icmp_ge (tgt := 147) hx hb dX7_happens_121 (by decide) (fun c_183 => ?_) (fun c_183 => ?_)
                  · have hr := ite_p hr c_183
                    exact hk o_g_112 ls (lv_sub hl [] rfl) H locs hP hS hr
                  · have hr := ite_n hr c_183
                    refine lv_aload_n hx hb dX7_happens_124 rfl (lv_at hl 0 rfl) ?_
                    refine va_get (D := (dC, dI)) (ci := 6) (v := .ref a_o_g) (C := RX7) (T := TX7) (N := 15) hx hb hts iX7 hown hK hP 0 rfl rfl 0 (by decide) (hts (.fieldLink RX7 11 "PascalRowsModel" "g" "[I") (List.mem_of_getElem? (i := 1) rfl)) (fun _ h9 => h9) rfl dX7_happens_125 ?_
                    refine lv_iconst (v := (5 : Int32)) hx hb dX7_happens_128 (by decide) ?_
                    refine lv_iload_n hx hb dX7_happens_129 rfl (lv_at hl 1 rfl) ?_
                    refine lv_iadd hx hb dX7_happens_130 ?_
                    refine lv_aload_n hx hb dX7_happens_131 rfl (lv_at hl 0 rfl) ?_
                    refine va_get (D := (dC, dI)) (ci := 6) (v := .ref a_o_g) (C := RX7) (T := TX7) (N := 15) hx hb hts iX7 hown hK hP 0 rfl rfl 0 (by decide) (hts (.fieldLink RX7 11 "PascalRowsModel" "g" "[I") (List.mem_of_getElem? (i := 1) rfl)) (fun _ h9 => h9) rfl dX7_happens_132 ?_
                    refine lv_bipush (v := (7 : Int32)) hx hb dX7_happens_135 (by decide) ?_
                    refine lv_iload_n hx hb dX7_happens_137 rfl (lv_at hl 1 rfl) ?_
                    refine lv_iadd hx hb dX7_happens_138 ?_
                    obtain ⟨g_184, eg_184, hg_184, hr⟩ := rd_e hr
                    refine va_iald hx hb hK hP 1 0 rfl rfl hg_184 dX7_happens_139 ?_
                    refine tp_ eg_184 ?_
                    obtain ⟨w_185, ew_185, hw_185, hr⟩ := wr_e hr
                    refine va_iast hx hb hK hP (hD.fst rfl) hS 1 0 rfl rfl hw_185 dX7_happens_140 (fun H locs hP _ hS => ?_)
                    rw [← ew_185] at hP
                    have hP : va_P (dC, dI) vwCl [(a_o, .inr (6, [.ref a_o_g, .ref a_o_kept, .ref a_o_was, .int o_isKept, .ref a_o_triangle, .int o_takenBy, .ref a_o_text, .int o_fed, .int o_place, .int o_letter, .int o_first, .int o_second, .ref a_o_sort, .ref a_o_size, .ref a_o_items])), (a_o_g, .inl (cI, 64, .inl w_185))] H := hP
                    refine lv_iinc (v := (v3_112 + (1 : Int32))) (lv' := [(3, .int (v3_112 + (1 : Int32))), (0, .ref a_o)]) hx hb dX7_happens_141 hl (k := 1) rfl (congrArg (fun z => v3_112 + z) (by decide)) (by decide) rfl (fun ls hl => ?_)
                    refine lv_goto (tgt := 112) hx hb dX7_happens_144 (by decide) ?_
                    exact ih (v3_112 + (1 : Int32)) w_185 ls (lv_sub hl [1, 0] rfl) H locs hP hS hr
              refine hL112  _ (fun xc_o_g_112 ls hl H locs hP hS hr => ?_) 5000 ((2 : Int32) * p1) w_181 ls (lv_sub hl [1, 0] rfl) H locs hP hS hr
              obtain rfl := Option.some.inj hr
              exact hret H locs _ hP hS (fun Qc free hq hf => W.vret hx hb hrt hq hf dX7_happens_147 hlocks)
