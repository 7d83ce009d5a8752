/-! the static row, out of what the Statement gives -/
theorem eq_it {args : Array Value} {s : State} {t : Term} {z : Int32} (h : (Cond.eq t (.int z)).before args s = true) : t.eval args s none [] s = some (.int z) := by
  cases hv : t.eval args s none [] s with
  | none => simp [Cond.before, Cond.holds, Cond.value, hv] at h
  | some w =>
    have hz : (Term.int z).eval args s none [] s = some (.int z) := rfl
    simp only [Cond.before, Cond.holds, Cond.value, hv, hz] at h
    cases w <;> simp_all
theorem st_row {args : Array Value} {s : State} {t : Term} (h1 : (Cond.arrayOf t .int).before args s = true) (h2 : (Cond.eq (.length t) (.int 4)).before args s = true)
    (h3 : (Cond.eq (.elem t (.int 0)) (.int 2)).before args s = true) (h4 : (Cond.eq (.elem t (.int 1)) (.int 3)).before args s = true) (h5 : (Cond.eq (.elem t (.int 2)) (.int 5)).before args s = true) (h6 : (Cond.eq (.elem t (.int 3)) (.int 7)).before args s = true) :
    ∃ aS : Nat, t.eval args s none [] s = some (.ref aS) ∧ va_X aS 4 PS s s.heap := by
  have hv := eq_it h2
  obtain ⟨a, cell, ht, harr, hlen⟩ := Term.length_spec hv
  have hsz : cell.slots.size < 2 ^ 31 := by
    simp only [Term.eval, ht, harr, Option.bind_eq_bind, Option.bind_some] at hv
    by_cases hlt : cell.slots.size < 2147483648
    · exact hlt
    · simp [hlt] at hv
  have e4 : cell.slots.size = 4 := by
    have h : (4 : Int32) = Int32.ofNat cell.slots.size := by
      injection hlen
    have := congrArg Int32.toNatClampNeg h
    rw [show (Int32.ofNat cell.slots.size).toNatClampNeg = cell.slots.size from nI_clamp hsz] at this
    exact this.symm
  obtain ⟨hcell, hk, -, -⟩ := State.arrayAt?_spec harr
  have hof := (Cond.arrayOf_spec h1 ht hcell).1
  have el : ∀ (j z : Int32), (Term.elem t (.int j)).eval args s none [] s = some (.int z) → cell.slots[j.toNatClampNeg]? = some (.int z) := by
    intro j z h
    obtain ⟨a', j', cell', q1, q2, q3, q4, q5⟩ := Term.elem_spec h
    have e1 : a = a' := by
      have := ht.symm.trans q1
      injection this with this
      injection this
    have e2 : j = j' := by
      have : some (Value.int j) = some (Value.int j') := q2
      injection this with this
      injection this
    subst e1 e2
    have e3 : cell = cell' := Option.some.inj (harr.symm.trans q3)
    rw [e3]
    exact q5
  refine ⟨a, ht, cell, hcell, hof, hk, e4, fun j hj => ?_⟩
  have hc : j = 0 ∨ j = 1 ∨ j = 2 ∨ j = 3 := by omega
  rcases hc with rfl | rfl | rfl | rfl
  · exact el 0 2 (eq_it h3)
  · exact el 1 3 (eq_it h4)
  · exact el 2 5 (eq_it h5)
  · exact el 3 7 (eq_it h6)
theorem ar_of {args : Array Value} {s : State} {ty : FieldType} (h : (Cond.arrayClass ty).before args s = true) : ∃ cA : ClassId, ArrOfT s cA ty ∧ s.vm.findClass ("[" ++ ty.toString) = some cA := by
  obtain ⟨c, k, comp, h1, h2, h3⟩ := Cond.arrayClass_spec h
  exact ⟨c, fun n z => ⟨fun k h => (by cases h), k, h2, comp, h3⟩, h1⟩
set_option maxRecDepth 20000 in
theorem xNest_in : ∀ w ∈ xNest, w ∈ lw_tbl := memr_ _ [116, 106, 108, 110, 154, 112, 114, 104, 95, 96, 118, 120, 152, 144, 167, 286, 271, 312, 543] (by decide +kernel)

set_option maxHeartbeats 8000000 in
set_option maxRecDepth 100000 in
/-- THE LAW, from its entry -/
theorem whole_start {p : Program} {e : Env} {s : State} {m : MethodId} {below : List Frame} {meth : Method} {c : Code} (l : Launch) (hflags : l.flags = flags0) {b L : Nat} {xs : Nat → Int32} (hL : L ≤ 3072) (C0 : lw_At p s m meth c b L xs) : W p l e room_1 s m #[Value.ref b] below meth c s.heap [] 0 0 (lw_Z below #[Value.ref b] s) (entryFrame m ([Value.ref b] : List Value).toArray 4) := by
  obtain ⟨hx, hb, hr, hml, hown, hts0, hX, hbl, hlocks, hgv⟩ := C0
  have hts : ∀ w ∈ wsL_law, w.before #[Value.ref b] s = true := fun w h => hts0 w (wsL_law_in w h)
  have hA : ∀ q : Nat, s.heap.size ≤ q → (fun q : Nat => s.heap.size ≤ q) q := fun _ h => h
  have hbA : ¬ (fun q : Nat => s.heap.size ≤ q) b := Nat.not_le.mpr hbl
  have hgs := flat_of_before _ hgv
  obtain ⟨aS, hSe, hXS⟩ := st_row (t := .static "PascalRows" "PRIMES" "[I") (hgs _ (by decide +kernel)) (hgs _ (by decide +kernel)) (hgs _ (by decide +kernel)) (hgs _ (by decide +kernel)) (hgs _ (by decide +kernel)) (hgs _ (by decide +kernel))
  have hZ : va_Z "PascalRows" "PRIMES" "[I" (.ref aS) (fun _ => False) s s.heap := va_Zof (hts0 (.laysStatic "PascalRows" "PRIMES" "[I") (List.mem_of_getElem? (i := 469) (by decide +kernel))) (hts0 (.initialized "PascalRows") (List.mem_of_getElem? (i := 40) (by decide +kernel))) hSe (fun _ _ z => z)
  obtain ⟨c1, iS1, hKn1⟩ := u_known (C := RX1) (T := TX1) (N := 2) (n := 2) hts inlX1 (hts (.instantiable RX1 2) (List.mem_of_getElem? (i := 47) rfl))
  obtain ⟨c2, iS2, hKn2⟩ := u_known (C := RX2) (T := TX2) (N := 4) (n := 4) hts inlX2 (hts (.instantiable RX2 4) (List.mem_of_getElem? (i := 24) rfl))
  obtain ⟨c3, iS3, hKn3⟩ := u_known (C := RX3) (T := TX3) (N := 10) (n := 10) hts inlX3 (hts (.instantiable RX3 10) (List.mem_of_getElem? (i := 18) rfl))
  obtain ⟨c4, iS4, hKn4⟩ := u_known (C := RX4) (T := TX4) (N := 3) (n := 3) hts inlX4 (hts (.instantiable RX4 3) (List.mem_of_getElem? (i := 28) rfl))
  obtain ⟨c5, iS5, hKn5⟩ := u_known (C := RX5) (T := TX5) (N := 1) (n := 1) hts inlX5 (hts (.instantiable RX5 1) (List.mem_of_getElem? (i := 14) rfl))
  obtain ⟨c6, iS6, hKn6⟩ := u_known (C := RX6) (T := TX6) (N := 7) (n := 7) hts inlX6 (hts (.instantiable RX6 7) (List.mem_of_getElem? (i := 1) rfl))
  obtain ⟨c7, iS7, hKn7⟩ := u_known (C := RX7) (T := TX7) (N := 15) (n := 15) hts inlX7 (hts (.instantiable RX7 15) (List.mem_of_getElem? (i := 4) rfl))
  obtain ⟨dC, dI, hKc⟩ : ∃ (dC : Nat → ClassId) (dI : Nat → Nat → Nat), ∀ (k : Nat) (q : vw_C), vwCl[k]? = some q → u_Kn s q.1 q.2.1 q.2.2 (dC k) (dI k) := by
    refine ⟨fun k => match k with | 0 => c1 | 1 => c2 | 2 => c3 | 3 => c4 | 4 => c5 | 5 => c6 | _ => c7, fun k => match k with | 0 => iS1 | 1 => iS2 | 2 => iS3 | 3 => iS4 | 4 => iS5 | 5 => iS6 | _ => iS7, ?_⟩
    intro k q hq
    match k, hq with
    | 0, hq => cases hq; exact hKn1
    | 1, hq => cases hq; exact hKn2
    | 2, hq => cases hq; exact hKn3
    | 3, hq => cases hq; exact hKn4
    | 4, hq => cases hq; exact hKn5
    | 5, hq => cases hq; exact hKn6
    | 6, hq => cases hq; exact hKn7
    | k + 7, hq => simp [vwCl] at hq
  obtain ⟨cI, hI1, hI2⟩ := ar_of (hts (.arrayClass .int) (List.mem_of_getElem? (i := 35) rfl))
  obtain ⟨cJ, hJ1, hJ2⟩ := ar_of (hts (.arrayClass .long) (List.mem_of_getElem? (i := 81) rfl))
  have hE : xE (dC, dI) cI cJ s := by
    refine ⟨⟨hKc, fun k q h => ?_⟩, fun w hw => va_Nw.of (xNest_tables w hw) (hts0 w (xNest_in w hw))⟩
    match k, h with
    | 0, h => cases h; exact ⟨hI1, hI2⟩
    | 1, h => cases h; exact ⟨hJ1, hJ2⟩
    | k + 2, h => simp at h
  have hK := hE.1
  obtain ⟨h6, so6, H6, S6, e6⟩ := pm_init6
  obtain ⟨g7, so7, g70, g71, g7j, S7, e7⟩ := pm_init7
  have hS : va_S (fun q : Nat => s.heap.size ≤ q) s.heap s.heap [] := va_S.rf
  have hP : va_P (dC, dI) vwCl [] s.heap := fun k q h => by simp at h
  have hD : va_D (fun q : Nat => s.heap.size ≤ q) [] := ⟨fun i j p q h => by simp at h, fun k q h => by simp at h⟩
  have hl := lv_entry ([.ref b]) (n := 4) (Nat.le_of_ble_eq_true rfl)
  rw [lg_entry_eq]
  generalize (lg_sl ([.ref b]) ++ List.replicate (4 - (lg_sl ([.ref b])).length) Slot.unset).toArray = ls at hl ⊢
  have hl : lv_has ls 4 [(0, .ref b)] := hl
  refine va_new (ci := 5) (fs := [.null, .null, .null, .null, .null, .null, .int 0]) (C := RX6) (T := TX6) (N := 7) hx hb hts inlX6 tyX6 tyX6_ok hown (hts (.classLink RL 7 RX6) (List.mem_of_getElem? (i := 0) rfl)) (hts (.instantiable RX6 7) (List.mem_of_getElem? (i := 1) rfl)) (hts (.initialized RX6) (List.mem_of_getElem? (i := 2) rfl)) hK hP hD hS hA rfl (fun j hj => by rcases (show j = 0 ∨ j = 1 ∨ j = 2 ∨ j = 3 ∨ j = 4 ∨ j = 5 ∨ j = 6 by omega) with rfl | rfl | rfl | rfl | rfl | rfl | rfl <;> rfl) (Nat.le_of_ble_eq_true rfl) (Nat.le_of_ble_eq_true rfl) dL_law_0 (fun aX H hP hD hS => ?_)
  refine lv_dup hx hb dL_law_3 rfl ?_
  refine ni_I ⟨hx, hb, hml, hown, hts⟩ (k_X6_init l dC dI cI cJ aX H.size _ e6) (cwI 0 hts gL_law_X6_init rfl rfl rfl (hts (.initialized RX6) (List.mem_of_getElem? (i := 2) rfl)) (hts (.methodLink RL 9 yX6_init) (List.mem_of_getElem? (i := 7) rfl)) (hts (.instanceMethod yX6_init) (List.mem_of_getElem? (i := 8) rfl)) rfl (by decide +kernel) ⟨Nat.le_of_ble_eq_true rfl, Nat.le_of_ble_eq_true rfl⟩) hE rfl hl.1 rfl (Nat.le_of_ble_eq_true rfl) dL_law_4 ⟨Nat.le_of_ble_eq_true rfl, Nat.le_of_ble_eq_true rfl⟩ hP hD hS hA [0] [] rfl rfl (by decide) (by decide) (by decide) (fun f H locs hP hD hS => ?_)
  refine lv_astore_n (lv' := [(1, .ref aX), (0, .ref b)]) hx hb dL_law_7 rfl hl (by decide) rfl (fun ls hl => ?_)
  refine va_new (ci := 6) (fs := [.null, .null, .null, .int 0, .null, .int 0, .null, .int 0, .int 0, .int 0, .int 0, .int 0, .null, .null, .null]) (C := RX7) (T := TX7) (N := 15) hx hb hts inlX7 tyX7 tyX7_ok hown (hts (.classLink RL 10 RX7) (List.mem_of_getElem? (i := 3) rfl)) (hts (.instantiable RX7 15) (List.mem_of_getElem? (i := 4) rfl)) (hts (.initialized RX7) (List.mem_of_getElem? (i := 5) rfl)) hK hP hD hS hA rfl (fun j hj => by rcases (show j = 0 ∨ j = 1 ∨ j = 2 ∨ j = 3 ∨ j = 4 ∨ j = 5 ∨ j = 6 ∨ j = 7 ∨ j = 8 ∨ j = 9 ∨ j = 10 ∨ j = 11 ∨ j = 12 ∨ j = 13 ∨ j = 14 by omega) with rfl | rfl | rfl | rfl | rfl | rfl | rfl | rfl | rfl | rfl | rfl | rfl | rfl | rfl | rfl <;> rfl) (Nat.le_of_ble_eq_true rfl) (Nat.le_of_ble_eq_true rfl) dL_law_8 (fun aM H hP hD hS => ?_)
  refine lv_dup hx hb dL_law_11 rfl ?_
  refine ni_I ⟨hx, hb, hml, hown, hts⟩ (k_X7_init l dC dI cI cJ aM H.size _ e7) (cwI 0 hts gL_law_X7_init rfl rfl rfl (hts (.initialized RX7) (List.mem_of_getElem? (i := 5) rfl)) (hts (.methodLink RL 12 yX7_init) (List.mem_of_getElem? (i := 83) rfl)) (hts (.instanceMethod yX7_init) (List.mem_of_getElem? (i := 84) rfl)) rfl (by decide +kernel) ⟨Nat.le_of_ble_eq_true rfl, Nat.le_of_ble_eq_true rfl⟩) hE rfl hl.1 rfl (Nat.le_of_ble_eq_true rfl) dL_law_12 ⟨Nat.le_of_ble_eq_true rfl, Nat.le_of_ble_eq_true rfl⟩ hP hD hS hA [38] [0, 1, 2, 3, 4, 5, 6, 7, 8, 9, 10, 11, 12, 13, 14, 15, 16, 17, 18, 19, 20, 21, 22, 23, 24, 25, 26, 27, 28, 29, 30, 31, 32, 33, 34, 35, 36, 37] rfl rfl (by decide +kernel) (by decide +kernel) (by decide) (fun k H locs hP hD hS => ?_)
  refine lv_astore_n (lv' := [(2, .ref aM), (1, .ref aX), (0, .ref b)]) hx hb dL_law_15 rfl hl (by decide) rfl (fun ls hl => ?_)
  refine lv_iconst (v := (0 : Int32)) hx hb dL_law_16 (by decide) ?_
  refine lv_istore_n (lv' := [(3, .int 0), (2, .ref aM), (1, .ref aX), (0, .ref b)]) hx hb dL_law_17 rfl hl (by decide) rfl (fun ls hl => ?_)
  refine W.widen (k := 600000) (n := 7302250) (Nat.le_of_ble_eq_true rfl) (Nat.le_of_ble_eq_true rfl) ?_
  have C : LC p l e s m meth c dC dI cI cJ b L xs aX aM aS f k := ⟨hx, hb, hml, hown, hts, hX, hbl, hL, hE, hD.fst rfl, hZ, hXS⟩
  exact law_loop C hr hlocks (L + 1) 0 (Nat.zero_le L) (by omega) h6 (fun _ => 0) 0 (fun _ => 0) 0 (fun _ => 0) 0 (fun _ => 0) 0 2 1 2 0 0 (fun _ => 0) 0 (fun _ => 0) 0 (fun _ => 0) 0 (fun _ => 0) 0 2 1 2 0 0 (fun _ => 0) 0 (fun _ => 0) 0 (fun _ => 0) 0 (fun _ => 0) 0 2 1 2 0 0 (fun _ => 0) 0 0 (fun _ => 0) 0 so6 (fun _ => 0) (fun _ => 0) 0 g7 (fun _ => 0) (fun _ => 0) (fun _ => 0) 0 (fun _ => 0) 0 0 0 0 0 so7 (fun _ => 0) (fun _ => 0) 0 H H6 (Or.inl rfl) (pm_start g70 g71 g7j _ _ _ _) (Or.inl ⟨rfl, rfl⟩) ⟨0, Nat.zero_le _, rfl, rfl, fun j hj => absurd hj (Nat.not_lt_zero j)⟩ (pm_tapes S6 S7) hP locs ls hS (lv_sub hl [3, 2, 1, 0] rfl)
