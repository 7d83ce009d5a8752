/-! the text -/
def RC (tx : Nat → Int32) (len : Int32) (ty : Nat → Int32) (fd : Int32) : Prop := ∃ L, L ≤ 100 ∧ len = nI L ∧ fd = nI L ∧ ∀ j, j < L → tx j = ty j ∧ ∃ s, s ≤ 127 ∧ tx j = nI s
theorem pm_feed {tx ty : Nat → Int32} {len fd : Int32} (R : RC tx len ty fd) (p0 : Int32) : ∃ r tx' len' ty' fd', RC tx' len' ty' fd' ∧ f_X6_feed p0 tx len = some (r, tx', len') ∧ f_X7_feed p0 ty fd = some (r, ty', fd') := by
  obtain ⟨L, hL, rfl, rfl, hR⟩ := R
  unfold f_X6_feed f_X7_feed f_X2_add
  rw [show f_X7_isIn (Int32.toInt64 p0) 0 127 = f_X6_isWithin p0 0 127 from ii_ p0 0 127]
  by_cases q : f_X6_isWithin p0 0 127 = 0
  · rw [if_pos q, if_pos q]
    exact ⟨_, _, _, _, _, ⟨L, hL, rfl, rfl, hR⟩, rfl, rfl⟩
  · rw [if_neg q, if_neg q]
    obtain ⟨s, rfl, _, hs⟩ := iw_n (a := 0) (b := 127) q (by omega) (by omega)
    by_cases q2 : L = 100
    · rw [if_pos (show nI L < 0 ∨ ¬ nI L < Int32.ofNat 100 from Or.inr (nI_nlt (by omega) (by omega))), if_pos (show nI L = 100 from nI_e q2)]
      exact ⟨_, _, _, _, _, ⟨L, hL, rfl, rfl, hR⟩, rfl, rfl⟩
    · rw [if_neg (show ¬ (nI L < 0 ∨ ¬ nI L < Int32.ofNat 100) from fun z => z.elim (nI_pos (by omega)) (fun z => z (nI_lt (by omega) (by omega)))), if_neg (show ¬ nI L = 100 from eq_f (b := 100) q2 (by omega) (by omega)), wr_n (by omega) (by omega), wr_n (by omega) (by omega), ob_s, ob_s, ob_s, nI_1]
      refine ⟨_, _, _, _, _, ⟨L + 1, by omega, rfl, rfl, fun j hj => ?_⟩, rfl, rfl⟩
      by_cases z : j = L
      · rw [z]
        show upd tx L (nI s) L = upd ty L (nI s) L ∧ ∃ s_1, s_1 ≤ 127 ∧ upd tx L (nI s) L = nI s_1
        rw [pk_us, pk_us]
        exact ⟨rfl, s, hs, rfl⟩
      · show upd tx L (nI s) j = upd ty L (nI s) j ∧ ∃ s_1, s_1 ≤ 127 ∧ upd tx L (nI s) j = nI s_1
        rw [pk_un z, pk_un z]
        exact hR j (by omega)
section READ
variable {tx ty : Nat → Int32} {L : Nat}
def sg (tx : Nat → Int32) (L x : Nat) : Int32 := if x < L then tx x else -1
theorem sg_6 (hL : L ≤ 100) {x : Nat} (hx : x ≤ 1000) : f_X2_sign tx (nI L) (nI x) = some (sg tx L x) := by
  unfold f_X2_sign sg
  by_cases q : x < L
  · rw [if_pos (show ¬ nI x < 0 ∧ ¬ nI L ≤ nI x ∧ ¬ Int32.ofNat 100 ≤ nI x from ⟨nI_pos (by omega), le_f q (by omega), le_f (by omega) (by omega)⟩), if_pos q, rd_n (by omega) (by omega), ob_s]
  · rw [if_neg (fun z => z.2.1 (le_t (by omega) (by omega))), if_neg q]
theorem sg_7 (hL : L ≤ 100) (hR : ∀ j, j < L → tx j = ty j) {x : Nat} (hx : x ≤ 1000) : f_X7_here ty (nI L) (nI x) = some (sg tx L x) := by
  unfold f_X7_here sg
  by_cases q : x < L
  · rw [if_neg (le_f q (by omega)), if_pos q, rd_n (by omega) (by omega), ob_s, hR x q]
  · rw [if_pos (le_t (by omega) (by omega)), if_neg q]
def OKT (tx ty : Nat → Int32) (L : Nat) : Prop := L ≤ 100 ∧ ∀ j, j < L → tx j = ty j ∧ ∃ s, s ≤ 127 ∧ tx j = nI s
theorem sg_v (R : OKT tx ty L) (x : Nat) : sg tx L x = -1 ∨ ∃ s, s ≤ 127 ∧ sg tx L x = nI s ∧ x < L := by
  unfold sg
  by_cases q : x < L
  · rw [if_pos q]
    obtain ⟨s, hs, e⟩ := (R.2 x q).2
    exact Or.inr ⟨s, hs, e, q⟩
  · rw [if_neg q]
    exact Or.inl rfl
theorem sg_l {x : Nat} {c : Nat} (hc : c < 2 ^ 31) (h : sg tx L x = nI c) : x < L := by
  unfold sg at h
  by_cases q : x < L
  · exact q
  · rw [if_neg q] at h
    exact absurd h.symm (m1_f hc)
theorem dg_ : ∀ s < 128, (f_X6_isWithin (nI s - 48) 0 9 = 0 ↔ f_X6_isWithin (nI s) 48 57 = 0) ∧ (¬ f_X6_isWithin (nI s) 48 57 = 0 → 48 ≤ s ∧ s ≤ 57) := by decide +kernel
def NV (i : Nat) (v : Int32) (m : Nat) : Prop := (i = 0 ∧ v = -1 ∧ m = 0) ∨ (0 < i ∧ v = nI m ∧ m < 10 ^ i)
theorem p10 {i : Nat} (h : i ≤ 3) : 10 ^ i ≤ 1000 := Nat.pow_le_pow_right (n := 10) (by omega) h
theorem tn_ (R : OKT tx ty L) {n : Nat} (hn : n ≤ 3) : ∀ (d i x f f' m : Nat) (v : Int32), i + d = n → x ≤ L → NV i v m → d < f → d < f' → ∃ v' x', x ≤ x' ∧ x' ≤ L ∧ (v' = -1 ∨ ∃ m', m' < 1000 ∧ v' = nI m') ∧ f_X2_takeNumber_L4 (fun a b => some (a, b)) (nI n) tx (nI L) f v (nI i) (nI x) = some (v', nI x') ∧ ∀ k, f_X7_readsNumber_L4 k (nI n) ty (nI L) f' v (nI i) (nI x) = k v' (nI x') := by
  have hR : ∀ j, j < L → tx j = ty j := fun j hj => (R.2 j hj).1
  intro d
  induction d with
  | zero =>
    intro i x f f' m v hi hx hv hf hf'
    obtain ⟨f, rfl⟩ : ∃ g, f = g + 1 := ⟨f - 1, by omega⟩
    obtain ⟨f', rfl⟩ : ∃ g, f' = g + 1 := ⟨f' - 1, by omega⟩
    have hp := p10 (i := i) (by omega)
    refine ⟨v, x, Nat.le_refl _, hx, ?_, ?_, fun k => ?_⟩
    · rcases hv with ⟨_, e, _⟩ | ⟨_, e, l⟩
      · exact Or.inl e
      · exact Or.inr ⟨m, by omega, e⟩
    · rw [f_X2_takeNumber_L4_s, if_pos (le_t (by omega) (by omega))]
    · rw [f_X7_readsNumber_L4_s, if_pos (le_t (by omega) (by omega))]
  | succ d ih =>
    intro i x f f' m v hi hx hv hf hf'
    obtain ⟨f, rfl⟩ : ∃ g, f = g + 1 := ⟨f - 1, by omega⟩
    obtain ⟨f', rfl⟩ : ∃ g, f' = g + 1 := ⟨f' - 1, by omega⟩
    have hL := R.1
    have hp := p10 (i := i) (by omega)
    have stop : (f_X6_isWithin (sg tx L x - 48) 0 9 = 0 ↔ f_X6_isWithin (sg tx L x) 48 57 = 0) ∧ (¬ f_X6_isWithin (sg tx L x) 48 57 = 0 → ∃ s, 48 ≤ s ∧ s ≤ 57 ∧ sg tx L x = nI s ∧ x < L) := by
      rcases sg_v R x with e | ⟨s, hs, e, l⟩
      · rw [e]
        exact ⟨by decide, fun z => absurd (by decide) z⟩
      · rw [e]
        exact ⟨(dg_ s (by omega)).1, fun z => ⟨s, ((dg_ s (by omega)).2 z).1, ((dg_ s (by omega)).2 z).2, rfl, l⟩⟩
    by_cases q : f_X6_isWithin (sg tx L x) 48 57 = 0
    · refine ⟨v, x, Nat.le_refl _, hx, ?_, ?_, fun k => ?_⟩
      · rcases hv with ⟨_, e, _⟩ | ⟨_, e, l⟩
        · exact Or.inl e
        · exact Or.inr ⟨m, by omega, e⟩
      · rw [f_X2_takeNumber_L4_s, if_neg (le_f (by omega) (by omega)), sg_6 hL (by omega), ob_s, if_pos (stop.1.mpr q)]
      · rw [f_X7_readsNumber_L4_s, if_neg (le_f (by omega) (by omega)), sg_7 hL hR (by omega), ob_s, show f_X7_isIn (Int32.toInt64 (sg tx L x)) 48 57 = f_X6_isWithin (sg tx L x) 48 57 from ii_ _ 48 57, if_pos q]
    · obtain ⟨s, h1, h2, e, l⟩ := stop.2 q
      have e6 : 10 * (if v < 0 then 0 else v) + (nI s - 48) = nI (10 * m + (s - 48)) := by
        have ev : (if v < 0 then 0 else v) = nI m := by
          rcases hv with ⟨_, e, em⟩ | ⟨_, e, l⟩
          · rw [e, em]
            decide
          · rw [e, if_neg (nI_pos (by omega))]
        rw [ev, zl_10, zl_48, pk_mul, pk_sub h1, nI_add]
      have e7 : ((if ¬ nI i = 0 then 10 * v else 0) + nI s) - 48 = nI (10 * m + (s - 48)) := by
        have ev : (if ¬ nI i = 0 then 10 * v else 0) = nI (10 * m) := by
          rcases hv with ⟨ei, e, em⟩ | ⟨ei, e, l⟩
          · rw [ei, em]
            rw [if_neg (fun z => z rfl)]
            rfl
          · rw [if_pos (nI_ne0 ei (by omega)), e, zl_10, pk_mul]
        rw [ev, nI_add, zl_48, pk_sub (by omega)]
        exact nI_e (by omega)
      have nv : NV (i + 1) (nI (10 * m + (s - 48))) (10 * m + (s - 48)) := by
        refine Or.inr ⟨by omega, rfl, ?_⟩
        have hm : m < 10 ^ i := by
          rcases hv with ⟨ei, _, em⟩ | ⟨_, _, l⟩
          · rw [ei, em]
            decide
          · exact l
        rw [Nat.pow_succ]
        omega
      obtain ⟨v', x', a1, a2, a3, a4, a5⟩ := ih (i + 1) (x + 1) f f' _ _ (by omega) (by omega) nv (by omega) (by omega)
      refine ⟨v', x', by omega, a2, a3, ?_, fun k => ?_⟩
      · rw [f_X2_takeNumber_L4_s, if_neg (le_f (by omega) (by omega)), sg_6 hL (by omega), ob_s, if_neg (fun z => q (stop.1.mp z)), qn_s, e, e6, nI_1, nI_1]
        exact a4
      · rw [f_X7_readsNumber_L4_s, if_neg (le_f (by omega) (by omega)), sg_7 hL hR (by omega), ob_s, show f_X7_isIn (Int32.toInt64 (sg tx L x)) 48 57 = f_X6_isWithin (sg tx L x) 48 57 from ii_ _ 48 57, if_neg q, ob_s, qn_s, e, e7, nI_1, nI_1]
        exact a5 k
theorem nm_ (R : OKT tx ty L) {n : Nat} (hn : n ≤ 3) {x : Nat} (hx : x ≤ L) : ∃ v' x', x ≤ x' ∧ x' ≤ L ∧ (v' = -1 ∨ ∃ m', m' < 1000 ∧ v' = nI m') ∧ f_X2_takeNumber (nI n) tx (nI L) (nI x) = some (v', nI x') ∧ f_X7_readsNumber (nI n) ty (nI L) (nI x) = some (v', nI x') := by
  obtain ⟨v', x', a1, a2, a3, a4, a5⟩ := tn_ R hn n 0 x 5000 5000 0 (-1) (by omega) hx (Or.inl ⟨rfl, rfl, rfl⟩) (by omega) (by omega)
  exact ⟨v', x', a1, a2, a3, a4, a5 _⟩
theorem tk_ (hL : L ≤ 100) {x : Nat} (hx : x ≤ 1000) (c : Int32) : f_X2_take c tx (nI L) (nI x) = some (if sg tx L x = c then 1 else 0, nI (if sg tx L x = c then x + 1 else x)) := by
  unfold f_X2_take
  rw [sg_6 hL hx, ob_s, qn_s]
  by_cases q : sg tx L x = c
  · rw [if_pos q, if_pos q]
    rw [if_pos (show ¬ (1 : Int32) = 0 by decide), nI_1]
  · rw [if_neg q, if_neg q]
    rw [if_neg (fun z => z rfl), Int32.add_zero]
/-- what a clause is to both -/
def CLA (l a b l1 f1 s1 : Int32) : Prop := l1 = l ∧ ((l = 112 ∧ f1 = a) ∨ (l = 101 ∧ f1 = a) ∨ (l = 109 ∧ f1 = a ∧ s1 = b) ∨ l = 120 ∨ (l = 119 ∧ f1 = a ∧ s1 = b))
def PR (tx ty : Nat → Int32) (L x : Nat) (ok : Bool) (x' : Nat) (l a b : Int32) : Prop := x ≤ x' ∧ x' ≤ L ∧ (ok = true → x < x') ∧ (∀ cn s, s < 12 → f_X2_takeClause tx cn (nI s) (nI L) (nI x) = some (bI ok, if ok then up3 cn s l a b else cn, if ok then nI (s + 1) else nI s, nI x')) ∧ ∀ l0 f0 s0, ∃ l1 f1 s1, f_X7_readsClause ty (nI L) (nI x) l0 f0 s0 = some (bI ok, nI x', l1, f1, s1) ∧ (ok = true → CLA l a b l1 f1 s1)
theorem ad_ {u a b : Int32} {cn : Nat → Int32} {s x : Nat} (hs : s < 12) : Option.bind (f_X1_add u a b 36 cn (nI s)) (fun u_57 => (some ((if (¬ (u_57.1 ≤ 0)) then (1 : Int32) else 0), u_57.2.1, u_57.2.2, nI x))) = some (bI true, up3 cn s u a b, nI (s + 1), nI x) := by
  rw [la_a (by omega) (by omega), ob_s, if_pos (show ¬ nI (s + 1) ≤ 0 from nI_nle (by omega) (by omega))]
  rfl
theorem v_ok {v : Int32} (h : v = -1 ∨ ∃ m, m < 1000 ∧ v = nI m) : (v = -1 ∧ v < 0) ∨ (¬ v = -1 ∧ ¬ v < 0) := by
  rcases h with rfl | ⟨m, hm, rfl⟩
  · exact Or.inl ⟨rfl, by decide⟩
  · exact Or.inr ⟨m1_f (by omega), nI_pos (by omega)⟩
theorem pr_ (R : OKT tx ty L) {x : Nat} (hx : x ≤ L) : ∃ ok x' l a b, PR tx ty L x ok x' l a b := by
  have hL := R.1
  have hR : ∀ j, j < L → tx j = ty j := fun j hj => (R.2 j hj).1
  by_cases c : sg tx L x = 112 ∨ sg tx L x = 101 ∨ sg tx L x = 109 ∨ sg tx L x = 120 ∨ sg tx L x = 119
  · have nc : ¬ (¬ sg tx L x = 112 ∧ ¬ sg tx L x = 101 ∧ ¬ sg tx L x = 109 ∧ ¬ sg tx L x = 120 ∧ ¬ sg tx L x = 119) := fun z => c.elim z.1 (fun c => c.elim z.2.1 (fun c => c.elim z.2.2.1 (fun c => c.elim z.2.2.2.1 z.2.2.2.2)))
    have hxL : x < L := by
      rcases c with e | e | e | e | e
      · exact sg_l (c := 112) (by omega) e
      · exact sg_l (c := 101) (by omega) e
      · exact sg_l (c := 109) (by omega) e
      · exact sg_l (c := 120) (by omega) e
      · exact sg_l (c := 119) (by omega) e
    by_cases c1 : sg tx L x = 120
    · refine ⟨true, x + 1, 120, 0, 0, by omega, by omega, fun _ => by omega, fun cn s hs => ?_, fun l0 f0 s0 => ⟨120, f0, s0, ?_, fun _ => ⟨rfl, Or.inr (Or.inr (Or.inr (Or.inl rfl)))⟩⟩⟩
      · unfold f_X2_takeClause
        rw [sg_6 hL (by omega), ob_s, if_neg nc, if_pos c1, if_neg (show ¬ (0 : Int32) = -1 by decide), c1, if_neg (show ¬ (120 : Int32) = 119 by decide), if_neg (show ¬ ((120 : Int32) = 109 ∨ (120 : Int32) = 119) by decide), if_neg (show ¬ (0 : Int32) = -1 by decide), nI_1, ad_ hs]
        rfl
      · unfold f_X7_readsClause
        rw [sg_7 hL hR (by omega), ob_s, if_neg nc, if_pos c1, c1, nI_1]
        rfl
    · by_cases c2 : sg tx L x = 119
      · obtain ⟨v1, x1, a1, a2, a3, a4, a5⟩ := nm_ R (n := 3) (by omega) (x := x + 1) (by omega)
        have hd6 : ∀ cn s, f_X2_takeClause tx cn (nI s) (nI L) (nI x) = if v1 = -1 then some (0, cn, nI s, nI x1) else (if sg tx L x1 = 44 then Option.bind (f_X2_takeNumber 3 tx (nI L) (nI (x1 + 1))) (fun u_67 => (if (u_67.1 = -1) then (some (0, cn, nI s, u_67.2)) else (Option.bind (f_X1_add 119 v1 u_67.1 36 cn (nI s)) (fun u_69 => (some ((if (¬ (u_69.1 ≤ 0)) then 1 else 0), u_69.2.1, u_69.2.2, u_67.2)))))) else some (0, cn, nI s, nI x1)) := by
          intro cn s
          unfold f_X2_takeClause
          rw [sg_6 hL (by omega), ob_s, if_neg nc, if_neg c1, c2, if_neg (show ¬ ¬ (119 : Int32) = 119 from fun z => z rfl), nI_1, show f_X2_takeNumber 3 tx (nI L) (nI (x + 1)) = some (v1, nI x1) from a4, ob_s]
          by_cases z : v1 = -1
          · rw [if_pos z, if_pos z]
          · rw [if_neg z, if_neg z, if_pos rfl, tk_ hL (by omega), ob_s]
            by_cases z2 : sg tx L x1 = 44
            · rw [if_pos z2, if_pos z2, if_pos z2, if_neg (show ¬ (1 : Int32) = 0 by decide), if_pos (Or.inr rfl)]
            · rw [if_neg z2, if_neg z2, if_neg z2, if_pos rfl]
        have hd7 : ∀ l0 f0 s0, f_X7_readsClause ty (nI L) (nI x) l0 f0 s0 = if v1 < 0 then some (0, nI x1, 119, v1, s0) else (if sg tx L x1 = 44 then Option.bind (f_X7_readsNumber 3 ty (nI L) (nI (x1 + 1))) (fun u_22 => (some ((if (¬ (u_22.1 < 0)) then 1 else 0), u_22.2, 119, v1, u_22.1))) else some (0, nI x1, 119, v1, s0)) := by
          intro l0 f0 s0
          unfold f_X7_readsClause
          rw [sg_7 hL hR (by omega), ob_s, if_neg nc, if_neg c1, c2, if_neg (show ¬ ¬ (119 : Int32) = 119 from fun z => z rfl), nI_1, show f_X7_readsNumber 3 ty (nI L) (nI (x + 1)) = some (v1, nI x1) from a5, ob_s]
          by_cases z : v1 < 0
          · rw [if_pos (Or.inl z), if_neg (fun w => w z), if_pos z]
          · rw [if_neg (show ¬ (v1 < 0 ∨ (119 : Int32) = 112 ∨ (119 : Int32) = 101) from fun w => w.elim z (by decide)), if_neg z, if_pos rfl, sg_7 hL hR (by omega), ob_s, nI_1]
        rcases v_ok a3 with ⟨z1, z2⟩ | ⟨z1, z2⟩
        · refine ⟨false, x1, 0, 0, 0, by omega, a2, fun z => (by cases z), fun cn s hs => ?_, fun l0 f0 s0 => ⟨119, v1, s0, ?_, fun z => (by cases z)⟩⟩
          · rw [hd6, if_pos z1]
            rfl
          · rw [hd7, if_pos z2]
            rfl
        · by_cases z3 : sg tx L x1 = 44
          · have hx1 := sg_l (c := 44) (by omega) z3
            obtain ⟨v2, x2, b1, b2, b3, b4, b5⟩ := nm_ R (n := 3) (by omega) (x := x1 + 1) (by omega)
            rcases v_ok b3 with ⟨z4, z5⟩ | ⟨z4, z5⟩
            · refine ⟨false, x2, 0, 0, 0, by omega, b2, fun z => (by cases z), fun cn s hs => ?_, fun l0 f0 s0 => ⟨119, v1, v2, ?_, fun z => (by cases z)⟩⟩
              · rw [hd6, if_neg z1, if_pos z3, show f_X2_takeNumber 3 tx (nI L) (nI (x1 + 1)) = some (v2, nI x2) from b4, ob_s, if_pos z4]
                rfl
              · rw [hd7, if_neg z2, if_pos z3, show f_X7_readsNumber 3 ty (nI L) (nI (x1 + 1)) = some (v2, nI x2) from b5, ob_s, if_neg (fun w => w z5)]
                rfl
            · refine ⟨true, x2, 119, v1, v2, by omega, b2, fun _ => by omega, fun cn s hs => ?_, fun l0 f0 s0 => ⟨119, v1, v2, ?_, fun _ => ⟨rfl, Or.inr (Or.inr (Or.inr (Or.inr ⟨rfl, rfl, rfl⟩)))⟩⟩⟩
              · rw [hd6, if_neg z1, if_pos z3, show f_X2_takeNumber 3 tx (nI L) (nI (x1 + 1)) = some (v2, nI x2) from b4, ob_s, if_neg z4, ad_ hs]
                rfl
              · rw [hd7, if_neg z2, if_pos z3, show f_X7_readsNumber 3 ty (nI L) (nI (x1 + 1)) = some (v2, nI x2) from b5, ob_s, if_pos z5]
                rfl
          · refine ⟨false, x1, 0, 0, 0, by omega, a2, fun z => (by cases z), fun cn s hs => ?_, fun l0 f0 s0 => ⟨119, v1, s0, ?_, fun z => (by cases z)⟩⟩
            · rw [hd6, if_neg z1, if_neg z3]
              rfl
            · rw [hd7, if_neg z2, if_neg z3]
              rfl
      · obtain ⟨v1, x1, a1, a2, a3, a4, a5⟩ := nm_ R (n := 1) (by omega) (x := x + 1) (by omega)
        by_cases c3 : sg tx L x = 109
        · have hd6 : ∀ cn s, f_X2_takeClause tx cn (nI s) (nI L) (nI x) = if v1 = -1 then some (0, cn, nI s, nI x1) else Option.bind (f_X2_takeNumber 3 tx (nI L) (nI x1)) (fun u_67 => (if (u_67.1 = -1) then (some (0, cn, nI s, u_67.2)) else (Option.bind (f_X1_add 109 v1 u_67.1 36 cn (nI s)) (fun u_69 => (some ((if (¬ (u_69.1 ≤ 0)) then 1 else 0), u_69.2.1, u_69.2.2, u_67.2)))))) := by
            intro cn s
            unfold f_X2_takeClause
            rw [sg_6 hL (by omega), ob_s, if_neg nc, if_neg c1, c3, if_pos (show ¬ (109 : Int32) = 119 by decide), nI_1, show f_X2_takeNumber 1 tx (nI L) (nI (x + 1)) = some (v1, nI x1) from a4, ob_s, if_neg (show ¬ (109 : Int32) = 119 by decide), if_pos (show (109 : Int32) = 109 ∨ (109 : Int32) = 119 from Or.inl rfl)]
          have hd7 : ∀ l0 f0 s0, f_X7_readsClause ty (nI L) (nI x) l0 f0 s0 = if v1 < 0 then some (0, nI x1, 109, v1, s0) else Option.bind (f_X7_readsNumber 3 ty (nI L) (nI x1)) (fun u_22 => (some ((if (¬ (u_22.1 < 0)) then 1 else 0), u_22.2, 109, v1, u_22.1))) := by
            intro l0 f0 s0
            unfold f_X7_readsClause
            rw [sg_7 hL hR (by omega), ob_s, if_neg nc, if_neg c1, c3, if_pos (show ¬ (109 : Int32) = 119 by decide), nI_1, show f_X7_readsNumber 1 ty (nI L) (nI (x + 1)) = some (v1, nI x1) from a5, ob_s]
            by_cases z : v1 < 0
            · rw [if_pos (Or.inl z), if_neg (fun w => w z), if_pos z]
            · rw [if_neg (show ¬ (v1 < 0 ∨ (109 : Int32) = 112 ∨ (109 : Int32) = 101) from fun w => w.elim z (by decide)), if_neg z, if_neg (show ¬ (109 : Int32) = 119 by decide)]
          rcases v_ok a3 with ⟨z1, z2⟩ | ⟨z1, z2⟩
          · refine ⟨false, x1, 0, 0, 0, by omega, a2, fun z => (by cases z), fun cn s hs => ?_, fun l0 f0 s0 => ⟨109, v1, s0, ?_, fun z => (by cases z)⟩⟩
            · rw [hd6, if_pos z1]
              rfl
            · rw [hd7, if_pos z2]
              rfl
          · obtain ⟨v2, x2, b1, b2, b3, b4, b5⟩ := nm_ R (n := 3) (by omega) (x := x1) (by omega)
            rcases v_ok b3 with ⟨z4, z5⟩ | ⟨z4, z5⟩
            · refine ⟨false, x2, 0, 0, 0, by omega, b2, fun z => (by cases z), fun cn s hs => ?_, fun l0 f0 s0 => ⟨109, v1, v2, ?_, fun z => (by cases z)⟩⟩
              · rw [hd6, if_neg z1, show f_X2_takeNumber 3 tx (nI L) (nI x1) = some (v2, nI x2) from b4, ob_s, if_pos z4]
                rfl
              · rw [hd7, if_neg z2, show f_X7_readsNumber 3 ty (nI L) (nI x1) = some (v2, nI x2) from b5, ob_s, if_neg (fun w => w z5)]
                rfl
            · refine ⟨true, x2, 109, v1, v2, by omega, b2, fun _ => by omega, fun cn s hs => ?_, fun l0 f0 s0 => ⟨109, v1, v2, ?_, fun _ => ⟨rfl, Or.inr (Or.inr (Or.inl ⟨rfl, rfl, rfl⟩))⟩⟩⟩
              · rw [hd6, if_neg z1, show f_X2_takeNumber 3 tx (nI L) (nI x1) = some (v2, nI x2) from b4, ob_s, if_neg z4, ad_ hs]
                rfl
              · rw [hd7, if_neg z2, show f_X7_readsNumber 3 ty (nI L) (nI x1) = some (v2, nI x2) from b5, ob_s, if_pos z5]
                rfl
        · have c4 : sg tx L x = 112 ∨ sg tx L x = 101 := by
            rcases c with e | e | e | e | e
            · exact Or.inl e
            · exact Or.inr e
            · exact absurd e c3
            · exact absurd e c1
            · exact absurd e c2
          have hd6 : ∀ cn s, f_X2_takeClause tx cn (nI s) (nI L) (nI x) = if v1 = -1 then some (0, cn, nI s, nI x1) else Option.bind (f_X1_add (sg tx L x) v1 0 36 cn (nI s)) (fun u_57 => (some ((if (¬ (u_57.1 ≤ 0)) then 1 else 0), u_57.2.1, u_57.2.2, nI x1))) := by
            intro cn s
            unfold f_X2_takeClause
            rw [sg_6 hL (by omega), ob_s, if_neg nc, if_neg c1, if_pos c2, nI_1, show f_X2_takeNumber 1 tx (nI L) (nI (x + 1)) = some (v1, nI x1) from a4, ob_s, if_neg c2, if_neg (show ¬ (sg tx L x = 109 ∨ sg tx L x = 119) from fun w => w.elim c3 c2), if_neg (show ¬ (0 : Int32) = -1 by decide)]
          have hd7 : ∀ l0 f0 s0, f_X7_readsClause ty (nI L) (nI x) l0 f0 s0 = some (if ¬ v1 < 0 then 1 else 0, nI x1, sg tx L x, v1, s0) := by
            intro l0 f0 s0
            unfold f_X7_readsClause
            rw [sg_7 hL hR (by omega), ob_s, if_neg nc, if_neg c1, if_pos c2, nI_1, show f_X7_readsNumber 1 ty (nI L) (nI (x + 1)) = some (v1, nI x1) from a5, ob_s, if_pos (Or.inr c4)]
          rcases v_ok a3 with ⟨z1, z2⟩ | ⟨z1, z2⟩
          · refine ⟨false, x1, 0, 0, 0, by omega, a2, fun z => (by cases z), fun cn s hs => ?_, fun l0 f0 s0 => ⟨sg tx L x, v1, s0, ?_, fun z => (by cases z)⟩⟩
            · rw [hd6, if_pos z1]
              rfl
            · rw [hd7, if_neg (fun w => w z2)]
              rfl
          · refine ⟨true, x1, sg tx L x, v1, 0, by omega, a2, fun _ => by omega, fun cn s hs => ?_, fun l0 f0 s0 => ⟨sg tx L x, v1, s0, ?_, fun _ => ⟨rfl, c4.elim (fun w => Or.inl ⟨w, rfl⟩) (fun w => Or.inr (Or.inl ⟨w, rfl⟩))⟩⟩⟩
            · rw [hd6, if_neg z1, ad_ hs]
              rfl
            · rw [hd7, if_pos z2]
              rfl
  · have cc : ¬ sg tx L x = 112 ∧ ¬ sg tx L x = 101 ∧ ¬ sg tx L x = 109 ∧ ¬ sg tx L x = 120 ∧ ¬ sg tx L x = 119 := ⟨fun z => c (Or.inl z), fun z => c (Or.inr (Or.inl z)), fun z => c (Or.inr (Or.inr (Or.inl z))), fun z => c (Or.inr (Or.inr (Or.inr (Or.inl z)))), fun z => c (Or.inr (Or.inr (Or.inr (Or.inr z))))⟩
    refine ⟨false, x, 0, 0, 0, Nat.le_refl _, hx, fun z => (by cases z), fun cn s hs => ?_, fun l0 f0 s0 => ⟨sg tx L x, f0, s0, ?_, fun z => (by cases z)⟩⟩
    · unfold f_X2_takeClause
      rw [sg_6 hL (by omega), ob_s, if_pos cc]
      rfl
    · unfold f_X7_readsClause
      rw [sg_7 hL hR (by omega), ob_s, if_pos cc]
      rfl
end READ
