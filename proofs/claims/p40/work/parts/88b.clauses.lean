/-! p40: the reader over clauses, whole or cut by a wrong byte -/
def ND (v : Int32) : Prop := f_X6_isWithin (v - 48) 0 9 = 0
theorem sg_in {tx : Nat → Int32} {L x : Nat} (h : x < L) : sg tx L x = tx x := if_pos h
theorem dg_y {d : Nat} (h : d ≤ 9) : ¬ f_X6_isWithin (nI (48 + d) - 48) 0 9 = 0 := by
  rw [zl_48, pk_sub (by omega), Nat.add_sub_cancel_left, zl_0, zl_9]
  exact iw_y (by omega) h (by omega)
theorem tn_s {tx : Nat → Int32} {L x n i f d m : Nat} {v : Int32} {k : Int32 → Int32 → Option (Int32 × Int32)} (hL : L ≤ 100) (hx : x ≤ 1000) (hi : i < n) (hn : n ≤ 3) (hd : d ≤ 9) (hs : sg tx L x = nI (48 + d)) (hv : (v = -1 ∧ m = 0) ∨ (v = nI m ∧ m < 1000)) : f_X2_takeNumber_L4 k (nI n) tx (nI L) (f + 1) v (nI i) (nI x) = f_X2_takeNumber_L4 k (nI n) tx (nI L) f (nI (10 * m + d)) (nI (i + 1)) (nI (x + 1)) := by
  have e : (if v < (0 : Int32) then (0 : Int32) else v) = nI m := by
    rcases hv with ⟨rfl, rfl⟩ | ⟨rfl, h⟩
    · rfl
    · rw [if_neg (nI_pos (by omega))]
  have e2 : nI (48 + d) - 48 = nI d := by
    rw [zl_48, pk_sub (by omega), Nat.add_sub_cancel_left]
  rw [f_X2_takeNumber_L4_s, if_neg (le_f hi (by omega)), sg_6 hL hx, ob_s, hs, if_neg (dg_y hd), qn_s, e, e2, zl_10, pk_mul, nI_add, nI_1, nI_1]
theorem tn_x {tx : Nat → Int32} {L x n i f : Nat} {v : Int32} (hL : L ≤ 100) (hx : x ≤ 1000) (hi : i < n) (hn : n ≤ 3) (hs : ND (sg tx L x)) {k : Int32 → Int32 → Option (Int32 × Int32)} : f_X2_takeNumber_L4 k (nI n) tx (nI L) (f + 1) v (nI i) (nI x) = some (v, nI x) := by
  rw [f_X2_takeNumber_L4_s, if_neg (le_f hi (by omega)), sg_6 hL hx, ob_s, if_pos (show f_X6_isWithin (sg tx L x - 48) 0 9 = 0 from hs)]
theorem tn_e {tx : Nat → Int32} {L x n f : Nat} {v : Int32} (hn : n ≤ 3) {k : Int32 → Int32 → Option (Int32 × Int32)} : f_X2_takeNumber_L4 k (nI n) tx (nI L) (f + 1) v (nI n) (nI x) = k v (nI x) := by
  rw [f_X2_takeNumber_L4_s, if_pos (le_t (by omega) (by omega))]
theorem one_ok {tx : Nat → Int32} {L x d : Nat} (hL : L ≤ 100) (hx : x < L) (hd : d ≤ 9) (h : tx x = nI (48 + d)) : f_X2_takeNumber (nI 1) tx (nI L) (nI x) = some (nI d, nI (x + 1)) := by
  unfold f_X2_takeNumber
  rw [show (5000 : Nat) = 4998 + 1 + 1 from rfl, zl_0, tn_s (m := 0) hL (by omega) (by omega) (by omega) hd ((sg_in hx).trans h) (Or.inl ⟨rfl, rfl⟩), tn_e (by omega), Nat.mul_zero, Nat.zero_add]
theorem one_x {tx : Nat → Int32} {L x : Nat} (hL : L ≤ 100) (hx : x ≤ 1000) (h : ND (sg tx L x)) {n : Nat} (hn : 0 < n) (hn3 : n ≤ 3) : f_X2_takeNumber (nI n) tx (nI L) (nI x) = some (-1, nI x) := by
  unfold f_X2_takeNumber
  rw [show (5000 : Nat) = 4999 + 1 from rfl, zl_0, tn_x hL hx hn hn3 h]
theorem num_ok {tx : Nat → Int32} {L y y' v : Nat} (hL : L ≤ 100) (h : NUM tx y y' v) (hy : y' ≤ L) (hs : ND (sg tx L y')) : f_X2_takeNumber (nI 3) tx (nI L) (nI y) = some (nI v, nI y') := by
  unfold f_X2_takeNumber
  rcases h with ⟨rfl, b, c⟩ | ⟨rfl, d, e, b1, b2, b3, b4, b5⟩ | ⟨rfl, c, d, e, b1, b2, b3, b4, b5, b6, b7⟩
  · rw [show (5000 : Nat) = 4998 + 1 + 1 from rfl, zl_0, tn_s (m := 0) hL (by omega) (by omega) (by omega) b ((sg_in (by omega)).trans c) (Or.inl ⟨rfl, rfl⟩), tn_x hL (by omega) (by omega) (by omega) hs, Nat.mul_zero, Nat.zero_add]
  · rw [show (5000 : Nat) = 4997 + 1 + 1 + 1 from rfl, zl_0, tn_s (m := 0) hL (by omega) (by omega) (by omega) b1 ((sg_in (by omega)).trans b4) (Or.inl ⟨rfl, rfl⟩), tn_s hL (by omega) (by omega) (by omega) b2 ((sg_in (by omega)).trans b5) (Or.inr ⟨rfl, by omega⟩), tn_x hL (by omega) (by omega) (by omega) hs, Nat.mul_zero, Nat.zero_add, b3]
  · rw [show (5000 : Nat) = 4996 + 1 + 1 + 1 + 1 from rfl, zl_0, tn_s (m := 0) hL (by omega) (by omega) (by omega) b1 ((sg_in (by omega)).trans b5) (Or.inl ⟨rfl, rfl⟩), tn_s hL (by omega) (by omega) (by omega) b2 ((sg_in (by omega)).trans b6) (Or.inr ⟨rfl, by omega⟩), tn_s hL (by omega) (by omega) (by omega) b3 ((sg_in (by omega)).trans b7) (Or.inr ⟨rfl, by omega⟩), tn_e (by omega), Nat.mul_zero, Nat.zero_add, b4]
theorem nd_33 : ND 33 := by unfold ND; decide +kernel
theorem nd_44 : ND 44 := by unfold ND; decide +kernel
theorem nd_59 : ND 59 := by unfold ND; decide +kernel
theorem nd_m1 : ND (-1) := by unfold ND; decide +kernel
/-- the number is cut at w by a wrong byte -/
theorem num_bad {tx : Nat → Int32} {L y y' v w : Nat} {tx2 : Nat → Int32} (hL : L ≤ 100) (h : NUM tx y y' v) (h1 : y ≤ w) (h2 : w < y') (hw : w < L) (q : ∀ j, y ≤ j → j < w → tx2 j = tx j) (e : tx2 w = 33) : ∃ v', (v' = -1 ∨ ∃ m, m < 1000 ∧ v' = nI m) ∧ f_X2_takeNumber (nI 3) tx2 (nI L) (nI y) = some (v', nI w) := by
  have hs : ND (sg tx2 L w) := by
    rw [sg_in hw, e]
    exact nd_33
  by_cases c0 : w = y
  · subst c0
    exact ⟨_, Or.inl rfl, one_x hL (by omega) hs (by omega) (by omega)⟩
  · unfold f_X2_takeNumber
    by_cases c1 : w = y + 1
    · subst c1
      have k : ∃ d, d ≤ 9 ∧ tx y = nI (48 + d) := by
        rcases h with ⟨rfl, b, c⟩ | ⟨rfl, d, e, b1, b2, b3, b4, b5⟩ | ⟨rfl, c, d, e, b1, b2, b3, b4, b5, b6, b7⟩
        · omega
        · exact ⟨d, b1, b4⟩
        · exact ⟨c, b1, b5⟩
      obtain ⟨d, k1, k2⟩ := k
      refine ⟨nI (10 * 0 + d), Or.inr ⟨_, by omega, rfl⟩, ?_⟩
      rw [show (5000 : Nat) = 4998 + 1 + 1 from rfl, zl_0, tn_s (m := 0) hL (by omega) (by omega) (by omega) k1 ((sg_in (by omega)).trans ((q y (by omega) (by omega)).trans k2)) (Or.inl ⟨rfl, rfl⟩), tn_x hL (by omega) (by omega) (by omega) hs]
    · rcases h with ⟨rfl, b, c⟩ | ⟨rfl, d, e, b1, b2, b3, b4, b5⟩ | ⟨rfl, c, d, e, b1, b2, b3, b4, b5, b6, b7⟩
      · omega
      · omega
      · have c2 : w = y + 1 + 1 := by omega
        subst c2
        refine ⟨nI (10 * (10 * 0 + c) + d), Or.inr ⟨_, by omega, rfl⟩, ?_⟩
        rw [show (5000 : Nat) = 4997 + 1 + 1 + 1 from rfl, zl_0, tn_s (m := 0) hL (by omega) (by omega) (by omega) b1 ((sg_in (by omega)).trans ((q y (by omega) (by omega)).trans b5)) (Or.inl ⟨rfl, rfl⟩), tn_s hL (by omega) (by omega) (by omega) b2 ((sg_in (by omega)).trans ((q (y + 1) (by omega) (by omega)).trans b6)) (Or.inr ⟨rfl, by omega⟩), tn_x hL (by omega) (by omega) (by omega) hs]
def TKO (tx : Nat → Int32) (L x x' : Nat) (l a b : Int32) : Prop := ∀ cn s, s < 12 → f_X2_takeClause tx cn (nI s) (nI L) (nI x) = some (1, up3 cn s l a b, nI (s + 1), nI x')
def TKF (tx : Nat → Int32) (L x x' : Nat) : Prop := ∀ cn s, s < 12 → f_X2_takeClause tx cn (nI s) (nI L) (nI x) = some (0, cn, nI s, nI x')
theorem nI_nm1 {n : Nat} (h : n < 2 ^ 31) : ¬ nI n = -1 := m1_f h
section TCL
variable {tx : Nat → Int32} {L x x1 x2 : Nat} {l v1 v2 : Int32}
theorem tc_x (hL : L ≤ 100) (hx : x < L) (e : tx x = 120) : TKO tx L x (x + 1) 120 0 0 := fun cn s hs => by
  have c1 : sg tx L x = 120 := (sg_in hx).trans e
  unfold f_X2_takeClause
  rw [sg_6 hL (by omega), ob_s, c1, if_neg (show ¬ (¬ (120 : Int32) = 112 ∧ ¬ (120 : Int32) = 101 ∧ ¬ (120 : Int32) = 109 ∧ ¬ (120 : Int32) = 120 ∧ ¬ (120 : Int32) = 119) by decide), if_pos rfl, if_neg (show ¬ (0 : Int32) = -1 by decide), if_neg (show ¬ (120 : Int32) = 119 by decide), if_neg (show ¬ ((120 : Int32) = 109 ∨ (120 : Int32) = 119) by decide), if_neg (show ¬ (0 : Int32) = -1 by decide), nI_1, ad_ hs]
  rfl
theorem tc_n (hL : L ≤ 100) (hx : x < L) (e : tx x = 33) : TKF tx L x x := fun cn s hs => by
  have c1 : sg tx L x = 33 := (sg_in hx).trans e
  unfold f_X2_takeClause
  rw [sg_6 hL (by omega), ob_s, c1, if_pos (show (¬ (33 : Int32) = 112 ∧ ¬ (33 : Int32) = 101 ∧ ¬ (33 : Int32) = 109 ∧ ¬ (33 : Int32) = 120 ∧ ¬ (33 : Int32) = 119) by decide)]
theorem tc_p (hL : L ≤ 100) (hx : x < L) (hl : l = 112 ∨ l = 101) (e : tx x = l) (h : f_X2_takeNumber (nI 1) tx (nI L) (nI (x + 1)) = some (v1, nI x1)) (cn : Nat → Int32) {s : Nat} (hs : s < 12) : f_X2_takeClause tx cn (nI s) (nI L) (nI x) = if v1 = -1 then some (0, cn, nI s, nI x1) else some (1, up3 cn s l v1 0, nI (s + 1), nI x1) := by
  have c1 : sg tx L x = l := (sg_in hx).trans e
  unfold f_X2_takeClause
  rw [sg_6 hL (by omega), ob_s, c1]
  rcases hl with rfl | rfl
  · rw [if_neg (show ¬ (¬ (112 : Int32) = 112 ∧ ¬ (112 : Int32) = 101 ∧ ¬ (112 : Int32) = 109 ∧ ¬ (112 : Int32) = 120 ∧ ¬ (112 : Int32) = 119) by decide), if_neg (show ¬ (112 : Int32) = 120 by decide), if_pos (show ¬ (112 : Int32) = 119 by decide), nI_1, show f_X2_takeNumber (1 : Int32) tx (nI L) (nI (x + 1)) = some (v1, nI x1) from h, ob_s]
    by_cases z : v1 = -1
    · rw [if_pos z, if_pos z]
    · rw [if_neg z, if_neg z, if_neg (show ¬ (112 : Int32) = 119 by decide), if_neg (show ¬ ((112 : Int32) = 109 ∨ (112 : Int32) = 119) by decide), if_neg (show ¬ (0 : Int32) = -1 by decide), ad_ hs]
      rfl
  · rw [if_neg (show ¬ (¬ (101 : Int32) = 112 ∧ ¬ (101 : Int32) = 101 ∧ ¬ (101 : Int32) = 109 ∧ ¬ (101 : Int32) = 120 ∧ ¬ (101 : Int32) = 119) by decide), if_neg (show ¬ (101 : Int32) = 120 by decide), if_pos (show ¬ (101 : Int32) = 119 by decide), nI_1, show f_X2_takeNumber (1 : Int32) tx (nI L) (nI (x + 1)) = some (v1, nI x1) from h, ob_s]
    by_cases z : v1 = -1
    · rw [if_pos z, if_pos z]
    · rw [if_neg z, if_neg z, if_neg (show ¬ (101 : Int32) = 119 by decide), if_neg (show ¬ ((101 : Int32) = 109 ∨ (101 : Int32) = 119) by decide), if_neg (show ¬ (0 : Int32) = -1 by decide), ad_ hs]
      rfl
theorem tc_m (hL : L ≤ 100) (hx : x < L) (e : tx x = 109) (h : f_X2_takeNumber (nI 1) tx (nI L) (nI (x + 1)) = some (v1, nI x1)) (cn : Nat → Int32) {s : Nat} (hs : s < 12) : f_X2_takeClause tx cn (nI s) (nI L) (nI x) = if v1 = -1 then some (0, cn, nI s, nI x1) else Option.bind (f_X2_takeNumber (nI 3) tx (nI L) (nI x1)) (fun u => if u.1 = -1 then some (0, cn, nI s, u.2) else some (1, up3 cn s 109 v1 u.1, nI (s + 1), u.2)) := by
  have c1 : sg tx L x = 109 := (sg_in hx).trans e
  unfold f_X2_takeClause
  rw [sg_6 hL (by omega), ob_s, c1, if_neg (show ¬ (¬ (109 : Int32) = 112 ∧ ¬ (109 : Int32) = 101 ∧ ¬ (109 : Int32) = 109 ∧ ¬ (109 : Int32) = 120 ∧ ¬ (109 : Int32) = 119) by decide), if_neg (show ¬ (109 : Int32) = 120 by decide), if_pos (show ¬ (109 : Int32) = 119 by decide), nI_1, show f_X2_takeNumber (1 : Int32) tx (nI L) (nI (x + 1)) = some (v1, nI x1) from h, ob_s]
  by_cases z : v1 = -1
  · rw [if_pos z, if_pos z]
  · rw [if_neg z, if_neg z, if_neg (show ¬ (109 : Int32) = 119 by decide), if_pos (Or.inl rfl)]
    show Option.bind (f_X2_takeNumber (nI 3) tx (nI L) (nI x1)) _ = _
    congr 1
    funext u
    by_cases z2 : u.1 = -1
    · rw [if_pos z2, if_pos z2]
    · rw [if_neg z2, if_neg z2]
      have a := ad_ (u := 109) (a := v1) (b := u.1) (cn := cn) (s := s) (x := 0) hs
      rw [la_a (by omega) (by omega), ob_s] at a ⊢
      have b := Option.some.inj a
      have c := congrArg Prod.fst b
      simp only at c
      rw [show (if ¬ nI (s + 1) ≤ 0 then (1 : Int32) else 0) = 1 from c]
theorem tc_w (hL : L ≤ 100) (hx : x < L) (e : tx x = 119) (h : f_X2_takeNumber (nI 3) tx (nI L) (nI (x + 1)) = some (v1, nI x1)) (hx1 : x1 ≤ L) (cn : Nat → Int32) {s : Nat} (hs : s < 12) : f_X2_takeClause tx cn (nI s) (nI L) (nI x) = if v1 = -1 then some (0, cn, nI s, nI x1) else if sg tx L x1 = 44 then Option.bind (f_X2_takeNumber (nI 3) tx (nI L) (nI (x1 + 1))) (fun u => if u.1 = -1 then some (0, cn, nI s, u.2) else some (1, up3 cn s 119 v1 u.1, nI (s + 1), u.2)) else some (0, cn, nI s, nI x1) := by
  have c1 : sg tx L x = 119 := (sg_in hx).trans e
  unfold f_X2_takeClause
  rw [sg_6 hL (by omega), ob_s, c1, if_neg (show ¬ (¬ (119 : Int32) = 112 ∧ ¬ (119 : Int32) = 101 ∧ ¬ (119 : Int32) = 109 ∧ ¬ (119 : Int32) = 120 ∧ ¬ (119 : Int32) = 119) by decide), if_neg (show ¬ (119 : Int32) = 120 by decide), if_neg (show ¬ ¬ (119 : Int32) = 119 from fun z => z rfl), nI_1, show f_X2_takeNumber (3 : Int32) tx (nI L) (nI (x + 1)) = some (v1, nI x1) from h, ob_s]
  by_cases z : v1 = -1
  · rw [if_pos z, if_pos z]
  · rw [if_neg z, if_neg z, if_pos rfl, tk_ hL (by omega), ob_s]
    by_cases z2 : sg tx L x1 = 44
    · rw [if_pos z2, if_pos z2, if_pos z2, if_neg (show ¬ (1 : Int32) = 0 by decide), if_pos (Or.inr rfl)]
      show Option.bind (f_X2_takeNumber (nI 3) tx (nI L) (nI (x1 + 1))) _ = _
      congr 1
      funext u
      by_cases z3 : u.1 = -1
      · rw [if_pos z3, if_pos z3]
      · rw [if_neg z3, if_neg z3]
        have a := ad_ (u := 119) (a := v1) (b := u.1) (cn := cn) (s := s) (x := 0) hs
        rw [la_a (by omega) (by omega), ob_s] at a ⊢
        have b := Option.some.inj a
        have c := congrArg Prod.fst b
        simp only at c
        rw [show (if ¬ nI (s + 1) ≤ 0 then (1 : Int32) else 0) = 1 from c]
    · rw [if_neg z2, if_neg z2, if_neg z2, if_pos rfl]
/-- a whole clause -/
theorem cl_ok {x' : Nat} {a b : Int32} (hL : L ≤ 100) (h : CLZ tx x x' l a b) (hx : x' ≤ L) (hs : ND (sg tx L x')) : TKO tx L x x' l a b := by
  have hl := h.l
  rcases h with ⟨e0, e1, rfl, rfl, d, e4, rfl, e6⟩ | ⟨rfl, e1, rfl, rfl, rfl⟩ | ⟨rfl, e1, d, v, e2, rfl, e4, rfl, n⟩ | ⟨rfl, e1, y, v, v', rfl, rfl, n, e4, n'⟩
  · intro cn s hs12
    rw [tc_p hL (by omega) e0 e1 (one_ok hL (by omega) e4 e6) cn hs12, if_neg (nI_nm1 (by omega))]
  · exact tc_x hL (by omega) e1
  · intro cn s hs12
    have nl := n.l
    rw [tc_m hL (by omega) e1 (one_ok hL (by omega) e2 e4) cn hs12, if_neg (nI_nm1 (by omega)), num_ok hL n hx hs, ob_s, if_neg (nI_nm1 (by omega))]
  · intro cn s hs12
    have nl := n.l
    have nl' := n'.l
    have e44 : sg tx L y = 44 := (sg_in (by omega)).trans e4
    rw [tc_w hL (by omega) e1 (num_ok hL n (by omega) (by rw [e44]; exact nd_44)) (by omega) cn hs12, if_neg (nI_nm1 (by omega)), if_pos e44, num_ok hL n' hx hs, ob_s, if_neg (nI_nm1 (by omega))]
/-- a clause with a wrong byte in it or just behind it -/
theorem cl_bad {x' w : Nat} {a b : Int32} {tx2 : Nat → Int32} (hL : L ≤ 100) (h : CLZ tx x x' l a b) (h1 : x ≤ w) (h2 : w ≤ x') (hw : w < L) (q : ∀ j, x ≤ j → j < w → tx2 j = tx j) (e : tx2 w = 33) : TKF tx2 L x w ∨ ∃ l a b, TKO tx2 L x w l a b := by
  have hl := h.l
  have hnd : ND (sg tx2 L w) := by
    rw [sg_in hw, e]
    exact nd_33
  by_cases c9 : w = x'
  · subst c9
    exact Or.inr ⟨l, a, b, cl_ok hL (h.c q) (by omega) hnd⟩
  · by_cases c0 : w = x
    · subst c0
      exact Or.inl (tc_n hL hw e)
    · have qx : tx2 x = tx x := q x (by omega) (by omega)
      rcases h with ⟨e0, e1, rfl, rfl, d, e4, rfl, e6⟩ | ⟨rfl, e1, rfl, rfl, rfl⟩ | ⟨rfl, e1, d, v, e2, rfl, e4, rfl, n⟩ | ⟨rfl, e1, y, v, v', rfl, rfl, n, e4, n'⟩
      · have cw : w = x + 1 := by omega
        subst cw
        refine Or.inl (fun cn s hs12 => ?_)
        rw [tc_p hL (by omega) e0 (qx.trans e1) (one_x hL (by omega) hnd (by omega) (by omega)) cn hs12, if_pos rfl]
      · omega
      · by_cases c1 : w = x + 1
        · subst c1
          refine Or.inl (fun cn s hs12 => ?_)
          rw [tc_m hL (by omega) (qx.trans e1) (one_x hL (by omega) hnd (by omega) (by omega)) cn hs12, if_pos rfl]
        · have q1 : tx2 (x + 1) = nI (48 + d) := (q (x + 1) (by omega) (by omega)).trans e4
          obtain ⟨v', b1, b2⟩ := num_bad (tx2 := tx2) (w := w) hL n (by omega) (by omega) hw (fun j h3 h4 => q j (by omega) h4) e
          rcases b1 with rfl | ⟨m, hm, rfl⟩
          · refine Or.inl (fun cn s hs12 => ?_)
            rw [tc_m hL (by omega) (qx.trans e1) (one_ok hL (by omega) e2 q1) cn hs12, if_neg (nI_nm1 (by omega)), b2, ob_s, if_pos rfl]
          · refine Or.inr ⟨109, nI d, nI m, fun cn s hs12 => ?_⟩
            rw [tc_m hL (by omega) (qx.trans e1) (one_ok hL (by omega) e2 q1) cn hs12, if_neg (nI_nm1 (by omega)), b2, ob_s, if_neg (nI_nm1 (by omega))]
      · have nl := n.l
        have nl' := n'.l
        by_cases c1 : w < y
        · obtain ⟨v1, b1, b2⟩ := num_bad (tx2 := tx2) (w := w) hL n (by omega) c1 hw (fun j h3 h4 => q j (by omega) h4) e
          refine Or.inl (fun cn s hs12 => ?_)
          rw [tc_w hL (by omega) (qx.trans e1) b2 (by omega) cn hs12]
          by_cases z : v1 = -1
          · rw [if_pos z]
          · rw [if_neg z, if_neg (show ¬ sg tx2 L w = 44 by rw [sg_in hw, e]; decide)]
        · have n1 : NUM tx2 (x + 1) y v := n.c (fun j h3 h4 => q j (by omega) (by omega))
          by_cases c2 : w = y
          · subst c2
            refine Or.inl (fun cn s hs12 => ?_)
            rw [tc_w hL (by omega) (qx.trans e1) (num_ok hL n1 (by omega) hnd) (by omega) cn hs12, if_neg (nI_nm1 (by omega)), if_neg (show ¬ sg tx2 L w = 44 by rw [sg_in hw, e]; decide)]
          · have q1 : sg tx2 L y = 44 := (sg_in (by omega)).trans ((q y (by omega) (by omega)).trans e4)
            obtain ⟨v2, b1, b2⟩ := num_bad (tx2 := tx2) (w := w) hL n' (by omega) (by omega) hw (fun j h3 h4 => q j (by omega) h4) e
            rcases b1 with rfl | ⟨m, hm, rfl⟩
            · refine Or.inl (fun cn s hs12 => ?_)
              rw [tc_w hL (by omega) (qx.trans e1) (num_ok hL n1 (by omega) (by rw [q1]; exact nd_44)) (by omega) cn hs12, if_neg (nI_nm1 (by omega)), if_pos q1, b2, ob_s, if_pos rfl]
            · refine Or.inr ⟨119, nI v, nI m, fun cn s hs12 => ?_⟩
              rw [tc_w hL (by omega) (qx.trans e1) (num_ok hL n1 (by omega) (by rw [q1]; exact nd_44)) (by omega) cn hs12, if_neg (nI_nm1 (by omega)), if_pos q1, b2, ob_s, if_neg (nI_nm1 (by omega))]
end TCL
