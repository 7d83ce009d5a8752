/-! p40: the law, from its entry -/
theorem ar_of {args : Array Value} {s : State} {ty : FieldType} (h : (Cond.arrayClass ty).before args s = true) : ∃ cA : ClassId, ArrOfT s cA ty ∧ s.vm.findClass ("[" ++ ty.toString) = some cA := by
  obtain ⟨c, k, comp, h1, h2, h3⟩ := Cond.arrayClass_spec h
  exact ⟨c, fun n z => ⟨fun k h => (by cases h), k, h2, comp, h3⟩, h1⟩
set_option maxRecDepth 20000 in
theorem xNest_in : ∀ w ∈ xNest, w ∈ lw_tbl := memr_ _ [84, 74, 76, 78, 122, 80, 82, 72, 63, 64, 86, 88, 120, 112, 135, 254, 239, 280, 378] (by decide +kernel)

set_option maxHeartbeats 8000000 in
set_option maxRecDepth 100000 in
/-- THE LAW, from its entry -/
theorem whole_start {p : Program} {e : Env} {s : State} {m : MethodId} {below : List Frame} {meth : Method} {c : Code} (l : Launch) (hflags : l.flags = flags0) {b L : Nat} {xs : Nat → Int32} (hL : L ≤ 260) (C0 : lw_At p s m meth c b L xs) : W p l e room_1 s m #[Value.ref b] below meth c s.heap [] 0 0 (lw_Z below #[Value.ref b] s) (entryFrame m ([Value.ref b] : List Value).toArray 21) := by
  obtain ⟨hx, hb, hr, hml, hown, hts0, hX, hbl, hlocks, hgv⟩ := C0
  have hts : ∀ w ∈ wsL_law, w.before #[Value.ref b] s = true := fun w h => hts0 w (wsL_law_in w h)
  have hA : ∀ q : Nat, s.heap.size ≤ q → (fun q : Nat => s.heap.size ≤ q) q := fun _ h => h
  obtain ⟨c1, iS1, hKn1⟩ := u_known (C := RX1) (T := TX1) (N := 2) (n := 2) hts inlX1 (hts (.instantiable RX1 2) (List.mem_of_getElem? (i := 47) rfl))
  obtain ⟨c2, iS2, hKn2⟩ := u_known (C := RX2) (T := TX2) (N := 4) (n := 4) hts inlX2 (hts (.instantiable RX2 4) (List.mem_of_getElem? (i := 25) rfl))
  obtain ⟨c3, iS3, hKn3⟩ := u_known (C := RX3) (T := TX3) (N := 10) (n := 10) hts inlX3 (hts (.instantiable RX3 10) (List.mem_of_getElem? (i := 19) rfl))
  obtain ⟨c4, iS4, hKn4⟩ := u_known (C := RX4) (T := TX4) (N := 3) (n := 3) hts inlX4 (hts (.instantiable RX4 3) (List.mem_of_getElem? (i := 29) rfl))
  obtain ⟨c5, iS5, hKn5⟩ := u_known (C := RX5) (T := TX5) (N := 1) (n := 1) hts inlX5 (hts (.instantiable RX5 1) (List.mem_of_getElem? (i := 15) rfl))
  obtain ⟨c6, iS6, hKn6⟩ := u_known (C := RX6) (T := TX6) (N := 7) (n := 7) hts inlX6 (hts (.instantiable RX6 7) (List.mem_of_getElem? (i := 1) rfl))
  obtain ⟨dC, dI, hKc⟩ : ∃ (dC : Nat → ClassId) (dI : Nat → Nat → Nat), ∀ (k : Nat) (q : vw_C), vwCl[k]? = some q → u_Kn s q.1 q.2.1 q.2.2 (dC k) (dI k) := by
    refine ⟨fun k => match k with | 0 => c1 | 1 => c2 | 2 => c3 | 3 => c4 | 4 => c5 | _ => c6, fun k => match k with | 0 => iS1 | 1 => iS2 | 2 => iS3 | 3 => iS4 | 4 => iS5 | _ => iS6, ?_⟩
    intro k q hq
    match k, hq with
    | 0, hq => cases hq; exact hKn1
    | 1, hq => cases hq; exact hKn2
    | 2, hq => cases hq; exact hKn3
    | 3, hq => cases hq; exact hKn4
    | 4, hq => cases hq; exact hKn5
    | 5, hq => cases hq; exact hKn6
    | k + 6, hq => simp [vwCl] at hq
  obtain ⟨cI, hI1, hI2⟩ := ar_of (hts (.arrayClass .int) (List.mem_of_getElem? (i := 3) rfl))
  obtain ⟨cJ, hJ1, hJ2⟩ := ar_of (hts (.arrayClass .long) (List.mem_of_getElem? (i := 78) rfl))
  have hE : xE (dC, dI) cI cJ s := by
    refine ⟨⟨hKc, fun k q h => ?_⟩, fun w hw => va_Nw.of (xNest_tables w hw) (hts0 w (xNest_in w hw))⟩
    match k, h with
    | 0, h => cases h; exact ⟨hI1, hI2⟩
    | 1, h => cases h; exact ⟨hJ1, hJ2⟩
    | k + 2, h => simp at h
  have hK := hE.1
  have e6 := init_e
  have C : LC p s m meth c dC dI cI cJ b L xs := ⟨hx, hb, hr, hml, hown, hts, hX, hbl, hlocks, hE⟩
  have KK : WW_21 p l e s m below meth c dC dI cI cJ b := law_pure (K21 := WW_21 p l e s m below meth c dC dI cI cJ b) (K46 := WW_46 p l e s m below meth c dC dI cI cJ b) (K98 := WW_98 p l e s m below meth c dC dI cI cJ b) (K435 := WW_435 p l e s m below meth c dC dI cI cJ b) (K457 := WW_457 p l e s m below meth c dC dI cI cJ b) (K499 := WW_499 p l e s m below meth c dC dI cI cJ b) (K536 := WW_536 p l e s m below meth c dC dI cI cJ b) (K566 := WW_566 p l e s m below meth c dC dI cI cJ b) (K591 := WW_591 p l e s m below meth c dC dI cI cJ b) (K608 := WW_608 p l e s m below meth c dC dI cI cJ b) (K684 := WW_684 p l e s m below meth c dC dI cI cJ b) (K709 := WW_709 p l e s m below meth c dC dI cI cJ b) (K761 := WW_761 p l e s m below meth c dC dI cI cJ b) (K783 := WW_783 p l e s m below meth c dC dI cI cJ b) (K829 := WW_829 p l e s m below meth c dC dI cI cJ b) (K896 := WW_896 p l e s m below meth c dC dI cI cJ b) (K989 := WW_989 p l e s m below meth c dC dI cI cJ b) (K1013 := WW_1013 p l e s m below meth c dC dI cI cJ b) (K1046 := WW_1046 p l e s m below meth c dC dI cI cJ b) (K1055 := WW_1055 p l e s m below meth c dC dI cI cJ b) (K1097 := WW_1097 p l e s m below meth c dC dI cI cJ b) (K1178 := WW_1178 p l e s m below meth c dC dI cI cJ b) (K1217 := WW_1217 p l e s m below meth c dC dI cI cJ b) (K1260 := WW_1260 p l e s m below meth c dC dI cI cJ b) (K1340 := WW_1340 p l e s m below meth c dC dI cI cJ b) (K1404 := WW_1404 p l e s m below meth c dC dI cI cJ b) (K1497 := WW_1497 p l e s m below meth c dC dI cI cJ b) hL (blk_21 C) (blk_46 C) (blk_98 C) (blk_435 C) (blk_457 C) (blk_499 C) (blk_536 C) (blk_566 C) (blk_591 C) (blk_608 C) (blk_684 C) (blk_709 C) (blk_761 C) (blk_783 C) (blk_829 C) (blk_896 C) (blk_989 C) (blk_1013 C) (blk_1046 C) (blk_1055 C) (blk_1097 C) (blk_1178 C) (blk_1217 C) (blk_1260 C) (blk_1340 C) (blk_1404 C) (blk_1497 C)
  have hS : va_S (fun q : Nat => s.heap.size ≤ q) s.heap s.heap [] := va_S.rf
  have hP : va_P (dC, dI) vwCl [] s.heap := fun k q h => by simp at h
  have hD : va_D (fun q : Nat => s.heap.size ≤ q) [] := ⟨fun i j p q h => by simp at h, fun k q h => by simp at h⟩
  have hl := lv_entry ([.ref b]) (n := 21) (Nat.le_of_ble_eq_true rfl)
  rw [lg_entry_eq]
  generalize (lg_sl ([.ref b]) ++ List.replicate (21 - (lg_sl ([.ref b])).length) Slot.unset).toArray = ls at hl ⊢
  have hl : lv_has ls 21 [(0, .ref b)] := hl
  refine va_new (ci := 5) (fs := [.null, .null, .null, .null, .null, .null, .int 0]) (C := RX6) (T := TX6) (N := 7) hx hb hts inlX6 tyX6 tyX6_ok hown (hts (.classLink RL 20 RX6) (List.mem_of_getElem? (i := 0) rfl)) (hts (.instantiable RX6 7) (List.mem_of_getElem? (i := 1) rfl)) (hts (.initialized RX6) (List.mem_of_getElem? (i := 2) rfl)) hK hP hD hS hA rfl (fun j hj => by rcases (show j = 0 ∨ j = 1 ∨ j = 2 ∨ j = 3 ∨ j = 4 ∨ j = 5 ∨ j = 6 by omega) with rfl | rfl | rfl | rfl | rfl | rfl | rfl <;> rfl) (Nat.le_of_ble_eq_true rfl) (Nat.le_of_ble_eq_true rfl) dL_law_0 (fun aO H hP hD hS => ?_)
  refine lv_dup hx hb dL_law_3 rfl ?_
  refine ni_I ⟨hx, hb, hml, hown, hts⟩ (k_X6_init l dC dI cI cJ aO H.size _ e6) (cwI 0 hts gL_law_X6_init rfl rfl rfl (hts (.initialized RX6) (List.mem_of_getElem? (i := 2) rfl)) (hts (.methodLink RL 38 yX6_init) (List.mem_of_getElem? (i := 8) rfl)) (hts (.instanceMethod yX6_init) (List.mem_of_getElem? (i := 9) rfl)) rfl (by decide +kernel) ⟨Nat.le_of_ble_eq_true rfl, Nat.le_of_ble_eq_true rfl⟩) hE rfl hl.1 rfl (Nat.le_of_ble_eq_true rfl) dL_law_4 ⟨Nat.le_of_ble_eq_true rfl, Nat.le_of_ble_eq_true rfl⟩ hP hD hS hA [0] [] rfl rfl (by decide) (by decide) (by decide) (fun fO H locs hP hD hS => ?_)
  refine lv_astore_n (lv' := [(1, .ref aO), (0, .ref b)]) hx hb dL_law_7 rfl hl (by decide) rfl (fun ls hl => ?_)
  refine va_new (ci := 5) (fs := [.null, .null, .null, .null, .null, .null, .int 0]) (C := RX6) (T := TX6) (N := 7) hx hb hts inlX6 tyX6 tyX6_ok hown (hts (.classLink RL 20 RX6) (List.mem_of_getElem? (i := 0) rfl)) (hts (.instantiable RX6 7) (List.mem_of_getElem? (i := 1) rfl)) (hts (.initialized RX6) (List.mem_of_getElem? (i := 2) rfl)) hK hP hD hS hA rfl (fun j hj => by rcases (show j = 0 ∨ j = 1 ∨ j = 2 ∨ j = 3 ∨ j = 4 ∨ j = 5 ∨ j = 6 by omega) with rfl | rfl | rfl | rfl | rfl | rfl | rfl <;> rfl) (Nat.le_of_ble_eq_true rfl) (Nat.le_of_ble_eq_true rfl) dL_law_8 (fun aX H hP hD hS => ?_)
  refine lv_dup hx hb dL_law_11 rfl ?_
  refine ni_I ⟨hx, hb, hml, hown, hts⟩ (k_X6_init l dC dI cI cJ aX H.size _ e6) (cwI 0 hts gL_law_X6_init rfl rfl rfl (hts (.initialized RX6) (List.mem_of_getElem? (i := 2) rfl)) (hts (.methodLink RL 38 yX6_init) (List.mem_of_getElem? (i := 8) rfl)) (hts (.instanceMethod yX6_init) (List.mem_of_getElem? (i := 9) rfl)) rfl (by decide +kernel) ⟨Nat.le_of_ble_eq_true rfl, Nat.le_of_ble_eq_true rfl⟩) hE rfl hl.1 rfl (Nat.le_of_ble_eq_true rfl) dL_law_12 ⟨Nat.le_of_ble_eq_true rfl, Nat.le_of_ble_eq_true rfl⟩ hP hD hS hA [38] [0, 1, 2, 3, 4, 5, 6, 7, 8, 9, 10, 11, 12, 13, 14, 15, 16, 17, 18, 19, 20, 21, 22, 23, 24, 25, 26, 27, 28, 29, 30, 31, 32, 33, 34, 35, 36, 37] rfl rfl (by decide +kernel) (by decide +kernel) (by decide) (fun fX H locs hP hD hS => ?_)
  refine lv_astore_n (lv' := [(2, .ref aX), (1, .ref aO), (0, .ref b)]) hx hb dL_law_15 rfl hl (by decide) rfl (fun ls hl => ?_)
  refine lv_bipush (v := (120 : Int32)) hx hb dL_law_16 (by decide) ?_
  refine va_newa (atype := .int) (a0 := (120, .inl (fun _ => (0 : Int32)))) (N' := 120) hx hb (hts (.arrayClass .int) (List.mem_of_getElem? (i := 3) rfl)) rfl hK hP hD hS hA (fun _ => rfl) (by decide) (by decide) (Nat.le_of_ble_eq_true rfl) (Nat.le_of_ble_eq_true rfl) (Nat.le_of_ble_eq_true rfl) dL_law_18 (fun a_text cA H hK2 hP hD hS => ?_)
  have hcA := arr_int hK2
  subst hcA
  refine lv_astore_n (lv' := [(3, .ref a_text), (2, .ref aX), (1, .ref aO), (0, .ref b)]) hx hb dL_law_20 rfl hl (by decide) rfl (fun ls hl => ?_)
  refine W.widen (k := 77) (n := 10066) (Nat.le_of_ble_eq_true rfl) (Nat.le_of_ble_eq_true rfl) ?_
  exact KK aO fO aX fX a_text H locs ls (hD.fst rfl) hP hS (lv_sub hl [3, 2, 1, 0] rfl)
