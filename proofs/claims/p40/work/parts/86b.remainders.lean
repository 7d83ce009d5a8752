/-! the model's table, remainders -/
theorem le_t {a b : Nat} (h : a ≤ b) (hb : b < 2 ^ 31) : nI a ≤ nI b := (nI_leI (by omega) hb).mpr h
theorem le_f {a b : Nat} (h : b < a) (ha : a < 2 ^ 31) : ¬ nI a ≤ nI b := fun z => by
  have := (nI_leI ha (by omega)).mp z
  omega
theorem eq_f {a b : Nat} (h : a ≠ b) (ha : a < 2 ^ 31) (hb : b < 2 ^ 31) : ¬ nI a = nI b := fun z => h ((nI_eq ha hb).mp z)
def PE (P E : Nat) : Prop := (P = 2 ∨ P = 3 ∨ P = 5 ∨ P = 7) ∧ 1 ≤ E ∧ E ≤ 4
theorem PE.e {P E : Nat} (h : PE P E) : E = 1 ∨ E = 2 ∨ E = 3 ∨ E = 4 := by
  have := h.2
  omega
theorem PE.m {P E : Nat} (h : PE P E) : 2 ≤ P ^ E ∧ P ^ E ≤ 2401 ∧ P ^ E ∣ 1944810000 ∧ 2 ≤ P ∧ P ≤ 7 := by
  rcases h.1 with rfl | rfl | rfl | rfl <;> rcases h.e with rfl | rfl | rfl | rfl <;> decide +kernel
theorem pw_0 {P E : Nat} (h : PE P E) : f_X0_powerOf (nI P) (nI E) = some (nI (P ^ E)) := by
  rcases h.1 with rfl | rfl | rfl | rfl <;> rcases h.e with rfl | rfl | rfl | rfl <;> decide +kernel
theorem pw_7 {P E : Nat} (h : PE P E) : f_X7_power (nI P) (nI E) = some (nI (P ^ E)) := by
  rcases h.1 with rfl | rfl | rfl | rfl <;> rcases h.e with rfl | rfl | rfl | rfl <;> decide +kernel
def GP (g : Nat → Int32) (P E : Nat) : Prop := g 0 = nI P ∧ g 1 = nI E
theorem mo_7 {g : Nat → Int32} {P E : Nat} (h : PE P E) (hg : GP g P E) : f_X7_modulus g = some (nI (P ^ E)) := by
  unfold f_X7_modulus
  simp only [zl_0, zl_1]
  rw [rd_n (by omega) (by omega), ob_s, rd_n (by omega) (by omega), ob_s, hg.1, hg.2, pw_7 h, ob_s]
def TT (m i k : Nat) (tri : Nat → Int32) : Prop := ∀ r c, r < 128 → c ≤ r → (r < i ∨ (r = i ∧ c < k)) → tri (128 * r + c) = nI (bn r c % m)
def OK (t : (Nat → Int32) × Int32) : Prop := t.2 = 0 ∨ ∃ m, t.2 = nI m ∧ 1 < m ∧ m ≤ 2401 ∧ ∀ r c, r < 128 → c ≤ r → t.1 (128 * r + c) = nI (bn r c % m)
theorem tk_25 (k : (Nat → Int32) → Option ((Nat → Int32) × Int32)) {m i : Nat} (hm : 1 < m ∧ m ≤ 2401) (hi : i < 128) (tri : Nat → Int32) (hI : TT m i 0 tri) : ∃ tri', TT m (i + 1) 0 tri' ∧ f_X7_takes_L25 k (nI m) (nI i) 5000 0 tri = k tri' := by
  refine lp_ (fun f c s => f_X7_takes_L25 k (nI m) (nI i) f (nI c) s) (TT m i) (i + 1) (fun o => ∃ tri', TT m (i + 1) 0 tri' ∧ o = k tri') ?_ ?_ (i + 1) 0 5000 tri (by omega) (by omega) hI
  · intro f c s hc hI
    refine Or.inr ?_
    have hup : ∀ x, x = nI (bn i c % m) → TT m i (c + 1) (upd s (128 * i + c) x) := by
      intro x hx r' c' h1 h2 h3
      by_cases e : r' = i ∧ c' = c
      · obtain ⟨e1, e2⟩ := e
        subst e1 e2
        rw [pk_us, hx]
      · rw [pk_un (by omega)]
        exact hI r' c' h1 h2 (by omega)
    show ∃ s', TT m i (c + 1) s' ∧ f_X7_takes_L25 k (nI m) (nI i) (f + 1) (nI c) s = f_X7_takes_L25 k (nI m) (nI i) f (nI (c + 1)) s'
    rw [f_X7_takes_L25_s]
    simp only [zl_0, zl_1, zl_128, pk_mul, nI_add]
    rw [if_neg (nI_nlt (by omega) (by omega))]
    by_cases h0 : c = 0 ∨ c = i
    · rw [if_pos (h0.imp (fun z => by rw [z]) (fun z => by rw [z])), md_n (by omega) (by omega) (by omega), ob_s, wr_n (by omega) (by omega), ob_s]
      refine ⟨_, hup _ ?_, rfl⟩
      rcases h0 with rfl | rfl
      · rw [bn_0]
      · rw [bn_n]
    · obtain ⟨C, rfl⟩ : ∃ C, c = C + 1 := ⟨c - 1, by omega⟩
      obtain ⟨R, rfl⟩ : ∃ R, i = R + 1 := ⟨i - 1, by omega⟩
      rw [if_neg (fun z => h0 (z.imp (fun q => (nI_eq (by omega) (by omega)).mp q) (fun q => (nI_eq (by omega) (by omega)).mp q)))]
      rw [pk_sub (show 1 ≤ R + 1 by omega), pk_mul, nI_add, pk_sub (by omega), rd_n (by omega) (by omega), ob_s, rd_n (by omega) (by omega), ob_s]
      have l1 := Nat.mod_lt (bn R C) (show 0 < m by omega)
      have l2 := Nat.mod_lt (bn R (C + 1)) (show 0 < m by omega)
      have e1 : s (128 * (R + 1 - 1) + (C + 1) - 1) = nI (bn R C % m) := by
        rw [show 128 * (R + 1 - 1) + (C + 1) - 1 = 128 * R + C by omega]
        exact hI R C (by omega) (by omega) (Or.inl (by omega))
      have e2 : s (128 * (R + 1 - 1) + (C + 1)) = nI (bn R (C + 1) % m) := by
        rw [show 128 * (R + 1 - 1) + (C + 1) = 128 * R + (C + 1) by omega]
        exact hI R (C + 1) (by omega) (by omega) (Or.inl (by omega))
      rw [e1, e2, nI_add, md_n (by omega) (by omega) (by omega), ob_s, wr_n (by omega) (by omega), ob_s]
      exact ⟨_, hup _ (by rw [bn_s, ← Nat.add_mod]), rfl⟩
  · intro f s hI
    refine ⟨s, fun r c h1 h2 h3 => hI r c h1 h2 (by omega), ?_⟩
    show f_X7_takes_L25 k (nI m) (nI i) (f + 1) (nI (i + 1)) s = k s
    rw [f_X7_takes_L25_s, if_pos (nI_lt (by omega) (by omega))]
theorem tk_7 {m : Nat} (hm : 1 < m ∧ m ≤ 2401) {t : (Nat → Int32) × Int32} (hO : OK t) : ∃ tri', f_X7_takes (nI m) t.1 t.2 = some (tri', nI m) ∧ ∀ r c, r < 128 → c ≤ r → tri' (128 * r + c) = nI (bn r c % m) := by
  unfold f_X7_takes
  by_cases e : t.2 = nI m
  · rw [if_pos e]
    refine ⟨t.1, by rw [e], ?_⟩
    rcases hO with h | ⟨m', h1, h2, h3, h4⟩
    · rw [e, zl_0] at h
      have := (nI_eq (by omega) (by omega)).mp h
      omega
    · rw [e] at h1
      have := (nI_eq (by omega) (by omega)).mp h1
      rw [this]
      exact h4
  · rw [if_neg e]
    have := lp_ (fun f i s => f_X7_takes_L16 (fun x => some (x, nI m)) (nI m) f (nI i) s) (fun i s => TT m i 0 s) 128 (fun o => ∃ tri', o = some (tri', nI m) ∧ ∀ r c, r < 128 → c ≤ r → tri' (128 * r + c) = nI (bn r c % m)) ?_ ?_ 128 0 5000 t.1 (by omega) (by omega) ?_
    · exact this
    · intro f i s hi hI
      obtain ⟨tri', a, b⟩ := tk_25 (fun x => f_X7_takes_L16 (fun x => some (x, nI m)) (nI m) f (nI i + 1) x) hm hi s hI
      refine Or.inr ⟨tri', a, ?_⟩
      show f_X7_takes_L16 (fun x => some (x, nI m)) (nI m) (f + 1) (nI i) s = _
      rw [f_X7_takes_L16_s, zl_128, if_neg (le_f (by omega) (by omega)), b, nI_1]
    · intro f s hI
      refine ⟨s, ?_, fun r c h1 h2 => hI r c h1 h2 (Or.inl h1)⟩
      show f_X7_takes_L16 (fun x => some (x, nI m)) (nI m) (f + 1) (nI 128) s = _
      rw [f_X7_takes_L16_s, zl_128, if_pos (le_t (by omega) (by omega))]
    · intro r c _ _ h
      omega
/-- what a place holds, for any two ints -/
def RI (M : Nat) (x y : Int32) : Int32 := if x < 0 ∨ 127 < x ∨ y < 0 ∨ ¬ y ≤ x then 0 else nI (bn x.toNatClampNeg y.toNatClampNeg % M)
theorem RI_n {M r c : Nat} (hr : r ≤ 127) (hc : c < 2 ^ 31) : RI M (nI r) (nI c) = nI (bn r c % M) := by
  unfold RI
  by_cases h : c ≤ r
  · rw [if_neg, nI_clamp (by omega), nI_clamp hc]
    simp only [zl_0, zl_127]
    rw [nI_ltI (by omega) (by omega), nI_ltI (by omega) (by omega), nI_ltI (by omega) (by omega), nI_leI (by omega) (by omega)]
    omega
  · rw [if_pos (Or.inr (Or.inr (Or.inr (le_f (by omega) (by omega))))), bn_gt r c (by omega), Nat.zero_mod]
    rfl
theorem RI_big {M : Nat} {x y : Int32} (h : 127 < x) : RI M x y = 0 := by
  unfold RI
  rw [if_pos (Or.inr (Or.inl h))]
theorem RI_c {M : Nat} {x y : Int32} (q : ¬ (x < 0 ∨ 127 < x ∨ y < 0 ∨ ¬ y ≤ x)) : ∃ r c, r ≤ 127 ∧ c ≤ r ∧ x = nI r ∧ y = nI c := by
  have q1 : ¬ x < 0 := fun z => q (Or.inl z)
  have q2 : ¬ 127 < x := fun z => q (Or.inr (Or.inl z))
  have q3 : ¬ y < 0 := fun z => q (Or.inr (Or.inr (Or.inl z)))
  have q4 : y ≤ x := Decidable.byContradiction fun z => q (Or.inr (Or.inr (Or.inr z)))
  obtain ⟨r, hr, rfl⟩ := nI_of q1
  obtain ⟨c, hc, rfl⟩ := nI_of q3
  rw [zl_127, nI_ltI (by omega) hr] at q2
  rw [nI_leI hc hr] at q4
  exact ⟨r, c, by omega, q4, rfl, rfl⟩
theorem rm_3 {M : Nat} (hM : 1 < M ∧ M ≤ 2401 ∧ M ∣ 1944810000) {h : Nat → Int32} (hT : HT h) (x y : Int32) : f_X3_remainder x y h (nI M) = some (RI M x y) := by
  unfold f_X3_remainder f_X5_remainder
  rw [if_neg (by rw [zl_0]; exact le_f (by omega) (by omega))]
  by_cases q : x < 0 ∨ 127 < x ∨ y < 0 ∨ ¬ y ≤ x
  · rw [cl_0 q, ob_s, zl_0, md_n (by omega) (by omega) (by omega), ob_s, ob_s, Nat.zero_mod]
    unfold RI
    rw [if_pos q]
    rfl
  · obtain ⟨r, c, hr, hc, rfl, rfl⟩ := RI_c (M := M) q
    have l := Nat.mod_lt (bn r c) (show 0 < 1944810000 by omega)
    rw [cl_n hr hc (fun c' h' => hT r c' hr h'), ob_s, md_n (by omega) (by omega) (by omega), ob_s, ob_s, Nat.mod_mod_of_dvd _ hM.2.2, RI_n hr (by omega)]
theorem rm_5 {M : Nat} (hM : 1 < M ∧ M ≤ 2401 ∧ M ∣ 1944810000) {h : Nat → Int32} (hT : HT h) (x y : Int32) : f_X5_remainder x y (nI M) h = some (RI M x y) := by
  have e := rm_3 hM hT x y
  unfold f_X3_remainder at e
  cases hh : f_X5_remainder x y (nI M) h with
  | none => rw [hh] at e; cases e
  | some v => rw [hh] at e; exact e
/-! how the two look a number over -/
theorem lc_lt (x y : Int32) : lg_cmp x.toInt64 y.toInt64 < 0 ↔ x < y := by
  rw [lg_cmp_lt, Int64.lt_iff_toInt_lt, Int32.toInt_toInt64, Int32.toInt_toInt64, Int32.lt_iff_toInt_lt]
theorem lc_gt (x y : Int32) : 0 < lg_cmp x.toInt64 y.toInt64 ↔ y < x := by
  rw [lg_cmp_gt, Int64.lt_iff_toInt_lt, Int32.toInt_toInt64, Int32.toInt_toInt64, Int32.lt_iff_toInt_lt]
theorem ii_ (x a b : Int32) : f_X7_isIn x.toInt64 a.toInt64 b.toInt64 = f_X6_isWithin x a b := by
  unfold f_X7_isIn f_X6_isWithin
  by_cases h : x < a ∨ b < x
  · rw [if_neg (fun z => z (h.imp (lc_lt x a).mpr (lc_gt x b).mpr)), if_neg (fun z => z h)]
  · rw [if_pos (fun z => h (z.imp (lc_lt x a).mp (lc_gt x b).mp)), if_pos h]
theorem iw_0 {x a b : Int32} : f_X6_isWithin x a b = 0 ↔ (x < a ∨ b < x) := by
  unfold f_X6_isWithin
  by_cases h : x < a ∨ b < x
  · rw [if_neg (fun z => z h)]
    exact ⟨fun _ => h, fun _ => rfl⟩
  · rw [if_pos h]
    exact ⟨fun z => absurd z (by decide), fun z => absurd z h⟩
theorem iw_n {x : Int32} {a b : Nat} (h : ¬ f_X6_isWithin x (nI a) (nI b) = 0) (ha : a < 2 ^ 31) (hb : b < 2 ^ 31) : ∃ j, x = nI j ∧ a ≤ j ∧ j ≤ b := by
  rw [iw_0] at h
  have h1 : ¬ x < nI a := fun z => h (Or.inl z)
  have h2 : ¬ nI b < x := fun z => h (Or.inr z)
  have h0 : ¬ x < 0 := by
    intro z
    apply h1
    rw [Int32.lt_iff_toInt_lt] at z ⊢
    rw [nI_toInt ha]
    have : (0 : Int32).toInt = 0 := by decide
    omega
  obtain ⟨j, hj, rfl⟩ := nI_of h0
  rw [nI_ltI hj ha] at h1
  rw [nI_ltI hb hj] at h2
  exact ⟨j, rfl, by omega, by omega⟩
theorem iw_y {j a b : Nat} (h1 : a ≤ j) (h2 : j ≤ b) (hb : b < 2 ^ 31) : ¬ f_X6_isWithin (nI j) (nI a) (nI b) = 0 := by
  rw [iw_0, nI_ltI (by omega) (by omega), nI_ltI (by omega) (by omega)]
  omega
theorem ro_7 (x : Int32) : f_X7_isRow x = f_X6_isRow x := ii_ x 0 127
theorem ki_7 (x : Int32) : f_X7_isKind x = f_X6_isWithin x 0 4 := ii_ x 0 4
theorem pl_7 (x y : Int32) : f_X7_isPlace x y = f_X6_isPlace x y := by
  unfold f_X7_isPlace f_X6_isPlace
  rw [ro_7, show (0 : Int64) = (0 : Int32).toInt64 from rfl, ii_]
theorem ta_7 (x : Int32) : f_X7_isTape x = f_X4_isThere x := ii_ x 0 5
theorem ro_y {r : Nat} (h : r ≤ 127) : ¬ f_X6_isRow (nI r) = 0 := iw_y (a := 0) (b := 127) (by omega) h (by omega)
theorem ro_n {x : Int32} (h : ¬ f_X6_isRow x = 0) : ∃ r, x = nI r ∧ r ≤ 127 := by
  obtain ⟨j, e, _, h2⟩ := iw_n (a := 0) (b := 127) h (by omega) (by omega)
  exact ⟨j, e, h2⟩
theorem pl_y {r c : Nat} (h : r ≤ 127) (hc : c ≤ r) : f_X6_isPlace (nI r) (nI c) = 1 := by
  unfold f_X6_isPlace
  rw [if_pos]
  intro z
  rcases z with z | z
  · exact ro_y h z
  · exact iw_y (a := 0) (by omega) hc (by omega) z
theorem pl_n {x y : Int32} (h : ¬ f_X6_isPlace x y = 0) : ∃ r c, x = nI r ∧ y = nI c ∧ r ≤ 127 ∧ c ≤ r := by
  unfold f_X6_isPlace at h
  split at h
  · rename_i q
    obtain ⟨r, rfl, hr⟩ := ro_n (fun z => q (Or.inl z))
    obtain ⟨c, rfl, _, hc⟩ := iw_n (a := 0) (b := r) (fun z => q (Or.inr z)) (by omega) (by omega)
    exact ⟨r, c, rfl, rfl, hr, hc⟩
  · exact absurd rfl h
theorem rm_7 {g : Nat → Int32} {P E : Nat} (h : PE P E) (hg : GP g P E) {t : (Nat → Int32) × Int32} (hO : OK t) (x y : Int32) : ∃ t', OK t' ∧ f_X7_remainder x y g t.1 t.2 = some (RI (P ^ E) x y, t'.1, t'.2) := by
  have hm := h.m
  unfold f_X7_remainder
  obtain ⟨tri', e, ht⟩ := tk_7 (m := P ^ E) (by omega) hO
  rw [mo_7 h hg, ob_s, e, ob_s, show (0 : Int64) = (0 : Int32).toInt64 from rfl, show (127 : Int64) = (127 : Int32).toInt64 from rfl, ii_, ii_]
  refine ⟨(tri', nI (P ^ E)), Or.inr ⟨P ^ E, rfl, by omega, by omega, ht⟩, ?_⟩
  by_cases q : x < 0 ∨ 127 < x ∨ y < 0 ∨ ¬ y ≤ x
  · rw [if_neg]
    · unfold RI
      rw [if_pos q]
    · intro z
      obtain ⟨r, rfl, _, hr⟩ := iw_n (a := 0) (b := 127) z.1 (by omega) (by omega)
      obtain ⟨c, rfl, _, hc⟩ := iw_n (a := 0) (b := r) z.2 (by omega) (by omega)
      simp only [zl_0, zl_127] at q
      rw [nI_ltI (by omega) (by omega), nI_ltI (by omega) (by omega), nI_ltI (by omega) (by omega), nI_leI (by omega) (by omega)] at q
      omega
  · obtain ⟨r, c, hr, hc, rfl, rfl⟩ := RI_c (M := P ^ E) q
    rw [if_pos ⟨iw_y (a := 0) (b := 127) (by omega) hr (by omega), iw_y (a := 0) (by omega) hc (by omega)⟩]
    simp only [zl_128, pk_mul, nI_add]
    rw [rd_n (by omega) (by omega), ob_s, ht r c (by omega) hc, RI_n hr (by omega)]
