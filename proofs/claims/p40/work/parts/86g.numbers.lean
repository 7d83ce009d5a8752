/-! digits of a number; what both say of it -/
theorem hm_L {P : Nat} (hP : 2 ≤ P) (hP7 : P ≤ 7) {g : Nat → Int32} (hg : g 0 = nI P) : ∀ (t x i n f f' : Nat), x < 2 ^ t → x < 2 ^ 20 → i + t = 14 → t < f → t < f' → ∃ m, n ≤ m ∧ m ≤ n + t ∧ f_X0_howMany_L16 (fun x => some x) (nI P) f (nI n) (nI x) (nI i) = some (nI m) ∧ ∀ k, f_X7_digit_L34 k g f' (nI n) (nI x) = k (nI m) := by
  intro t
  induction t with
  | zero =>
    intro x i n f f' hx hx2 hi hf hf'
    obtain ⟨f, rfl⟩ : ∃ g, f = g + 1 := ⟨f - 1, by omega⟩
    obtain ⟨f', rfl⟩ : ∃ g, f' = g + 1 := ⟨f' - 1, by omega⟩
    have e : x = 0 := by omega
    subst e
    refine ⟨n, by omega, by omega, ?_, fun k => ?_⟩
    · rw [f_X0_howMany_L16_s, zl_0, if_neg (fun z => z.2 (le_t (by omega) (by omega)))]
    · rw [f_X7_digit_L34_s, zl_0, if_pos (le_t (by omega) (by omega))]
  | succ t ih =>
    intro x i n f f' hx hx2 hi hf hf'
    obtain ⟨f, rfl⟩ : ∃ g, f = g + 1 := ⟨f - 1, by omega⟩
    obtain ⟨f', rfl⟩ : ∃ g, f' = g + 1 := ⟨f' - 1, by omega⟩
    by_cases e : x = 0
    · subst e
      refine ⟨n, by omega, by omega, ?_, fun k => ?_⟩
      · rw [f_X0_howMany_L16_s, zl_0, if_neg (fun z => z.2 (le_t (by omega) (by omega)))]
      · rw [f_X7_digit_L34_s, zl_0, if_pos (le_t (by omega) (by omega))]
    · have l := Nat.div_le_self x P
      obtain ⟨m, h1, h2, h3, h4⟩ := ih (x / P) (i + 1) (n + 1) f f' (dl_ hP hx) (by omega) (by omega) (by omega) (by omega)
      refine ⟨m, by omega, by omega, ?_, fun k => ?_⟩
      · rw [f_X0_howMany_L16_s, zl_0, zl_14, if_pos ⟨le_f (by omega) (by omega), le_f (by omega) (by omega)⟩, dv_n (by omega) (by omega) (by omega), ob_s, nI_1, nI_1]
        exact h3
      · rw [f_X7_digit_L34_s, zl_0, if_neg (le_f (by omega) (by omega)), rd_n (by omega) (by omega), ob_s, hg, dv_n (by omega) (by omega) (by omega), ob_s, nI_1]
        exact h4 k
def dz (P v : Nat) : Nat → Nat
  | 0 => v
  | j + 1 => dz P v j / P
theorem dz_le (P v : Nat) : ∀ j, dz P v j ≤ v
  | 0 => Nat.le_refl _
  | j + 1 => Nat.le_trans (Nat.div_le_self _ _) (dz_le P v j)
theorem m1_lt {x : Int32} (h : ¬ (-1 : Int32) ≤ x) : ¬ (0 : Int32) ≤ x ∧ x ≠ -1 := by
  refine ⟨fun z => h (Int32.le_trans (by decide) z), fun e => h (by rw [e]; decide)⟩
theorem m1_c {x : Int32} (h : (-1 : Int32) ≤ x) (h2 : x ≠ -1) : ¬ x < 0 := by
  intro z
  apply h2
  apply Int32.toInt_inj.mp
  rw [Int32.le_iff_toInt_le] at h
  rw [Int32.lt_iff_toInt_lt] at z
  rw [show (-1 : Int32).toInt = -1 from by decide] at h ⊢
  rw [show (0 : Int32).toInt = 0 from by decide] at z
  omega
theorem di_ {g : Nat → Int32} {P E : Nat} (h : PE P E) (hg : GP g P E) (p0 p1 : Int32) : ∃ r, f_X6_digit p0 p1 (nI P) = some r ∧ f_X7_digit p0 p1 g = some r := by
  have hm := h.m
  unfold f_X6_digit f_X7_digit
  rw [show (0 : Int64) = (0 : Int32).toInt64 from rfl, show (9999 : Int64) = (9999 : Int32).toInt64 from rfl, ii_]
  by_cases q : f_X6_isWithin p0 0 9999 = 0
  · rw [if_pos q, if_pos q]
    exact ⟨_, rfl, rfl⟩
  · rw [if_neg q, if_neg q]
    by_cases q2 : (-1 : Int32) ≤ p1
    · rw [if_pos q2, if_pos q2]
      obtain ⟨v, rfl, _, hv⟩ := iw_n (a := 0) (b := 9999) q (by omega) (by omega)
      have l := Nat.div_le_self v P
      obtain ⟨m, h1, h2, h3, h4⟩ := hm_L (P := P) (by omega) (by omega) hg.1 13 (v / P) 1 1 5000 5000 (dl_ (t := 13) (by omega) (by omega)) (by omega) (by omega) (by omega) (by omega)
      unfold f_X0_howMany
      rw [zl_2, if_pos (le_t (by omega) (by omega)), dv_n (by omega) (by omega) (by omega), ob_s, show f_X0_howMany_L16 (fun x => some x) (nI P) 5000 1 (nI (v / P)) 1 = some (nI m) from h3, ob_s]
      rw [show rd_ g 64 0 = some (nI P) from by rw [← hg.1]; exact rd_n (j := 0) (by omega) (by omega), ob_s, dv_n (by omega) (by omega) (by omega), ob_s, show ∀ k, f_X7_digit_L34 k g 5000 1 (nI (v / P)) = k (nI m) from h4]
      by_cases q3 : p1 = -1
      · subst q3
        rw [if_pos rfl, if_neg (by decide)]
        exact ⟨_, rfl, rfl⟩
      · rw [if_neg q3]
        obtain ⟨i, hi, rfl⟩ := nI_of (m1_c q2 q3)
        rw [if_pos (nI_pos' hi)]
        have F := ld_ (fun f k => f_X7_digit_L68 (fun x4_68 => (if (nI m ≤ nI i) then (some (-5)) else (Option.bind (some (nI P)) (fun g_17 => (Option.bind (md_ x4_68 g_17) (fun d_18 => (some d_18))))))) (nI i) (nI m) g f (nI (dz P v k)) (nI k)) (min i m) (if nI m ≤ nI i then some (-5) else some (nI (dz P v (min i m) % P))) ?_ ?_ (min i m) 0 5000 (by omega) (by omega)
        · by_cases q4 : m ≤ i
          · rw [if_pos (le_t q4 hi)] at F ⊢
            refine ⟨_, rfl, ?_⟩
            exact F
          · rw [if_neg (le_f (by omega) (by omega))] at F ⊢
            refine ⟨_, ?_, F⟩
            unfold f_X0_one
            rw [zl_2, if_pos (le_t (by omega) (by omega))]
            have G := ld_ (fun f k => f_X0_one_L12 (fun x3_12 => (Option.bind (md_ x3_12 (nI P)) (fun d_8 => (some d_8)))) (nI P) (nI i) f (nI (dz P v k)) (nI k)) i (some (nI (dz P v (min i m) % P))) ?_ ?_ i 0 5000 (by omega) (by omega)
            · have G' : f_X0_one_L12 (fun x3_12 => (Option.bind (md_ x3_12 (nI P)) (fun d_8 => (some d_8)))) (nI P) (nI i) 5000 (nI v) 0 = some (nI (dz P v (min i m) % P)) := G
              rw [G', ob_s]
            · intro f k hk
              have := dz_le P v k
              show f_X0_one_L12 _ _ _ (f + 1) _ (nI k) = f_X0_one_L12 _ _ _ f (nI (dz P v k / P)) (nI (k + 1))
              rw [f_X0_one_L12_s, zl_14, if_pos ⟨le_f (by omega) (by omega), le_f (by omega) (by omega)⟩, dv_n (by omega) (by omega) (by omega), ob_s, nI_1]
            · intro f
              have := dz_le P v i
              show f_X0_one_L12 _ _ _ (f + 1) _ (nI i) = _
              rw [f_X0_one_L12_s, if_neg (fun z => z.1 (le_t (by omega) (by omega))), md_n (by omega) (by omega) (by omega), ob_s, show min i m = i by omega]
        · intro f k hk
          have := dz_le P v k
          show f_X7_digit_L68 _ _ _ _ (f + 1) _ (nI k) = f_X7_digit_L68 _ _ _ _ f (nI (dz P v k / P)) (nI (k + 1))
          rw [f_X7_digit_L68_s, if_pos ⟨le_f (by omega) (by omega), le_f (by omega) (by omega)⟩, show rd_ g 64 0 = some (nI P) from by rw [← hg.1]; exact rd_n (j := 0) (by omega) (by omega), ob_s, dv_n (by omega) (by omega) (by omega), ob_s, nI_1]
        · intro f
          have := dz_le P v (min i m)
          show f_X7_digit_L68 _ _ _ _ (f + 1) _ (nI (min i m)) = _
          rw [f_X7_digit_L68_s, if_neg (fun z => by
            rw [nI_leI (by omega) (by omega), nI_leI (by omega) (by omega)] at z
            omega)]
          by_cases q4 : m ≤ i
          · rw [if_pos (le_t q4 hi), if_pos (le_t q4 hi)]
          · rw [if_neg (le_f (by omega) (by omega)), if_neg (le_f (by omega) (by omega)), ob_s, md_n (by omega) (by omega) (by omega), ob_s]
    · rw [if_neg q2, if_neg q2]
      exact ⟨_, rfl, rfl⟩
theorem pu_L {P : Nat} (hP : 2 ≤ P) (hP7 : P ≤ 7) {g : Nat → Int32} (hg : g 0 = nI P) : ∀ (t x i n f f' f'' : Nat), x < 2 ^ t → 1 ≤ x → x < 2 ^ 20 → i + t = 14 → t < f → t < f' → t < f'' → ∃ l m, f_X0_withoutPrime_L11 (fun x => some x) (nI P) f (nI x) (nI i) = some (nI l) ∧ f_X0_timesDivided_L14 (fun x => some x) (nI P) f' (nI n) (nI x) (nI i) = some (nI m) ∧ ∀ k, f_X7_pure_L32 k g f'' (nI x) (nI n) = k (nI l) (nI m) := by
  intro t
  induction t with
  | zero =>
    intro x i n f f' f'' hx h1
    omega
  | succ t ih =>
    intro x i n f f' f'' hx h1 hx2 hi hf hf' hf''
    obtain ⟨f, rfl⟩ : ∃ g, f = g + 1 := ⟨f - 1, by omega⟩
    obtain ⟨f', rfl⟩ : ∃ g, f' = g + 1 := ⟨f' - 1, by omega⟩
    obtain ⟨f'', rfl⟩ : ∃ g, f'' = g + 1 := ⟨f'' - 1, by omega⟩
    have r0 : rd_ g 64 0 = some (nI P) := by
      rw [← hg]
      exact rd_n (j := 0) (by omega) (by omega)
    have l1 := Nat.mod_lt x (show 0 < P by omega)
    by_cases e : x % P = 0
    · have l := Nat.div_le_self x P
      have hp : 1 ≤ x / P := by
        have := Nat.div_add_mod x P
        rw [e] at this
        by_cases z : x / P = 0
        · rw [z, Nat.mul_zero] at this
          omega
        · exact Nat.pos_of_ne_zero z
      obtain ⟨l', m, a, b, c⟩ := ih (x / P) (i + 1) (n + 1) f f' f'' (dl_ hP hx) hp (by omega) (by omega) (by omega) (by omega) (by omega)
      refine ⟨l', m, ?_, ?_, fun k => ?_⟩
      · rw [f_X0_withoutPrime_L11_s, zl_14, if_neg (le_f (by omega) (by omega)), md_n (by omega) (by omega) (by omega), ob_s, e, if_pos (show nI 0 = 0 from rfl), dv_n (by omega) (by omega) (by omega), ob_s, nI_1]
        exact a
      · rw [f_X0_timesDivided_L14_s, zl_14, if_neg (le_f (by omega) (by omega)), md_n (by omega) (by omega) (by omega), ob_s, e, if_pos (show nI 0 = 0 from rfl), dv_n (by omega) (by omega) (by omega), ob_s, nI_1, nI_1]
        exact b
      · rw [f_X7_pure_L32_s, r0, ob_s, md_n (by omega) (by omega) (by omega), ob_s, e, if_pos (show nI 0 = 0 from rfl), ob_s, dv_n (by omega) (by omega) (by omega), ob_s, nI_1]
        exact c k
    · refine ⟨x, n, ?_, ?_, fun k => ?_⟩
      · rw [f_X0_withoutPrime_L11_s, zl_14, if_neg (le_f (by omega) (by omega)), md_n (by omega) (by omega) (by omega), ob_s, zl_0, if_neg (eq_f e (by omega) (by omega))]
      · rw [f_X0_timesDivided_L14_s, zl_14, if_neg (le_f (by omega) (by omega)), md_n (by omega) (by omega) (by omega), ob_s, zl_0, if_neg (eq_f e (by omega) (by omega))]
      · rw [f_X7_pure_L32_s, r0, ob_s, md_n (by omega) (by omega) (by omega), ob_s, zl_0, if_neg (eq_f e (by omega) (by omega))]
theorem pu_ {g : Nat → Int32} {P E : Nat} (h : PE P E) (hg : GP g P E) (p0 p1 : Int32) : ∃ r, f_X6_pure p0 p1 (nI P) = some r ∧ f_X7_pure p0 p1 g = some r := by
  have hm := h.m
  unfold f_X6_pure f_X7_pure
  rw [show (0 : Int64) = (0 : Int32).toInt64 from rfl, show (1 : Int64) = (1 : Int32).toInt64 from rfl, show (9999 : Int64) = (9999 : Int32).toInt64 from rfl, ii_, ii_]
  by_cases q : f_X6_isWithin p0 1 9999 = 0
  · rw [if_pos q, if_pos q]
    exact ⟨_, rfl, rfl⟩
  · rw [if_neg q, if_neg q]
    by_cases q2 : f_X6_isWithin p1 0 1 = 0
    · rw [if_pos q2, if_pos q2]
      exact ⟨_, rfl, rfl⟩
    · rw [if_neg q2, if_neg q2]
      obtain ⟨v, rfl, hv0, hv⟩ := iw_n (a := 1) (b := 9999) q (by omega) (by omega)
      obtain ⟨l, m, a, b, c⟩ := pu_L (P := P) (by omega) (by omega) hg.1 14 v 0 0 5000 5000 5000 (by omega) hv0 (by omega) (by omega) (by omega) (by omega) (by omega)
      have c' := c (fun x3_32 x4_32 => some (if ¬ (p1 = 0) then x4_32 else x3_32))
      unfold f_X0_withoutPrime f_X0_timesDivided
      rw [zl_2, if_pos (le_t (by omega) (by omega)), if_pos (le_t (by omega) (by omega)), zl_0, a, b, ob_s, ob_s]
      rw [← zl_0] at c' ⊢
      by_cases q3 : p1 = 0
      · rw [if_pos q3]
        refine ⟨_, rfl, ?_⟩
        rw [c', if_neg (fun z => z q3)]
      · rw [if_neg q3]
        refine ⟨_, rfl, ?_⟩
        rw [c', if_pos q3]
/-! odds and means -/
section ODDS
variable {P E : Nat} {h g : Nat → Int32} {t : TR}
def OD (h : Nat → Int32) (P M k r : Nat) (v : Int32) : Int32 := fo_ (fun c a => if TV h P M k r c = v then a + 1 else a) (r + 1) 0 0
theorem od_6 (s : SET P E h g) {r k : Nat} (hr : r ≤ 127) (hk : k ≤ 4) (v : Int32) (kk : Int32 → Option Int64) : f_X6_odds_L36 kk (nI r) (nI k) v h (nI P) (nI (P ^ E)) 5000 0 0 = kk (OD h P (P ^ E) k r v) := by
  unfold OD
  refine lf_ (fun f i a => f_X6_odds_L36 kk (nI r) (nI k) v h (nI P) (nI (P ^ E)) f a (nI i)) _ kk (r + 1) ?_ ?_ (r + 1) 0 5000 0 (by omega) (by omega)
  · intro f i a hi
    show f_X6_odds_L36 _ _ _ _ _ _ _ (f + 1) a (nI i) = f_X6_odds_L36 _ _ _ _ _ _ _ f _ (nI (i + 1))
    rw [f_X6_odds_L36_s, if_neg (nI_nlt (by omega) (by omega)), tv_c s hk hr (by omega), ob_s, nI_1, ite_not]
  · intro f a
    show f_X6_odds_L36 _ _ _ _ _ _ _ (f + 1) a (nI (r + 1)) = _
    rw [f_X6_odds_L36_s, if_pos (nI_lt (by omega) (by omega))]
theorem od_7 (s : SET P E h g) (hO : OK t) {r k : Nat} (hr : r ≤ 127) (hk : k ≤ 4) (v : Int32) (kk : Int32 → (Nat → Int32) → Int32 → Option (Int64 × (Nat → Int32) × Int32)) : ∃ t', OK t' ∧ f_X7_odds_L35 kk (nI r) (nI k) v g 5000 0 0 t.1 t.2 = kk (OD h P (P ^ E) k r v) t'.1 t'.2 := by
  unfold OD
  refine lt_ (τ := TR) OK (fun f i a t => f_X7_odds_L35 kk (nI r) (nI k) v g f a (nI i) t.1 t.2) _ (fun x t => kk x t.1 t.2) (r + 1) ?_ ?_ (r + 1) 0 5000 0 t (by omega) (by omega) hO
  · intro f i a t hi hO
    obtain ⟨_, t', a1, b1⟩ := tv_ s hO hk hr (c := i) (by omega)
    refine ⟨t', a1, ?_⟩
    show f_X7_odds_L35 _ _ _ _ _ (f + 1) a (nI i) t.1 t.2 = f_X7_odds_L35 _ _ _ _ _ f _ (nI (i + 1)) t'.1 t'.2
    rw [f_X7_odds_L35_s, if_neg (nI_nlt (by omega) (by omega)), b1, ob_s, nI_1, ad_if]
  · intro f a t hO
    refine ⟨t, hO, ?_⟩
    show f_X7_odds_L35 _ _ _ _ _ (f + 1) a (nI (r + 1)) t.1 t.2 = _
    rw [f_X7_odds_L35_s, if_pos (nI_lt (by omega) (by omega))]
theorem OD_n (h : Nat → Int32) (P M k r : Nat) (v : Int32) : ∃ n, n ≤ r + 1 ∧ OD h P M k r v = nI n := by
  have := fo_i (g := fun c a => if TV h P M k r c = v then a + 1 else a) (fun i a => ∃ n, n ≤ i ∧ a = nI n) (r + 1) 0 0 (fun j a h1 h2 e => by
    obtain ⟨n, hn, rfl⟩ := e
    by_cases q : TV h P M k r j = v
    · exact ⟨n + 1, by omega, by show (if TV h P M k r j = v then nI n + 1 else nI n) = _; rw [if_pos q, nI_1]⟩
    · exact ⟨n, by omega, by show (if TV h P M k r j = v then nI n + 1 else nI n) = _; rw [if_neg q]⟩) ⟨0, by omega, rfl⟩
  rw [Nat.zero_add] at this
  exact this
theorem SM_n {M r : Nat} (hr : r ≤ 127) (hM : 1 < M ∧ M ≤ 2401) : ∃ n, n < 2 ^ 20 ∧ SM M r = nI n := by
  have := fo_i (g := fun c a => a + RI M (nI r) (nI c)) (fun i a => ∃ n, n ≤ i * 2401 ∧ a = nI n) (r + 1) 0 0 (fun j a h1 h2 e => by
    obtain ⟨n, hn, rfl⟩ := e
    have l := Nat.mod_lt (bn r j) (show 0 < M by omega)
    refine ⟨n + bn r j % M, by omega, ?_⟩
    show nI n + RI M (nI r) (nI j) = _
    rw [RI_n hr (by omega), nI_add]) ⟨0, by omega, rfl⟩
  obtain ⟨n, h1, h2⟩ := this
  exact ⟨n, by omega, h2⟩
theorem od_ (s : SET P E h g) (hO : OK t) (p0 p1 p2 p3 : Int32) : ∃ r t', OK t' ∧ f_X6_odds p0 p1 p2 p3 h (nI P) (nI (P ^ E)) = some r ∧ f_X7_odds p0 p1 p2 p3 g t.1 t.2 = some (r, t'.1, t'.2) := by
  unfold f_X6_odds f_X7_odds
  rw [ro_7, ki_7, show f_X7_isIn (Int32.toInt64 p3) 0 1 = f_X6_isWithin p3 0 1 from ii_ p3 0 1]
  by_cases q : f_X6_isRow p0 = 0 ∨ f_X6_isWithin p1 0 4 = 0 ∨ f_X6_isWithin p3 0 1 = 0
  · rw [if_pos q, if_pos q]
    exact ⟨_, t, hO, rfl, rfl⟩
  · rw [if_neg q, if_neg q]
    obtain ⟨r, rfl, hr⟩ := ro_n (fun z => q (Or.inl z))
    obtain ⟨k, rfl, _, hk⟩ := iw_n (a := 0) (b := 4) (fun z => q (Or.inr (Or.inl z))) (by omega) (by omega)
    obtain ⟨n, hn, e⟩ := OD_n h P (P ^ E) k r p2
    obtain ⟨t', a1, b1⟩ := od_7 s hO hr hk p2 (fun x5_35 x y => (Option.bind (f_X7_fraction x5_35 (nI r + 1) p3) (fun u_9 => (some (u_9, x, y)))))
    refine ⟨Int32.toInt64 (FR n (r + 1) p3), t', a1, ?_, ?_⟩
    · rw [od_6 s hr hk p2, e, nI_1, pf_6 (by omega) (by omega) (by omega), ob_s]
    · rw [b1, e, nI_1, fr_7 (by omega) (by omega) (by omega), ob_s]
theorem me_ (s : SET P E h g) (hO : OK t) (p0 p1 : Int32) : ∃ r t', OK t' ∧ f_X6_mean p0 p1 h (nI (P ^ E)) = some r ∧ f_X7_mean p0 p1 g t.1 t.2 = some (r, t'.1, t'.2) := by
  have hm := s.1.m
  unfold f_X6_mean f_X7_mean
  rw [ro_7, show f_X7_isIn (Int32.toInt64 p1) 0 1 = f_X6_isWithin p1 0 1 from ii_ p1 0 1]
  by_cases q : f_X6_isRow p0 = 0 ∨ f_X6_isWithin p1 0 1 = 0
  · rw [if_pos q, if_neg (fun z => q.elim z.1 z.2)]
    exact ⟨_, t, hO, rfl, rfl⟩
  · rw [if_neg q, if_pos ⟨fun z => q (Or.inl z), fun z => q (Or.inr z)⟩]
    obtain ⟨r, rfl, hr⟩ := ro_n (fun z => q (Or.inl z))
    obtain ⟨n, hn, e⟩ := SM_n (M := P ^ E) hr ⟨by omega, by omega⟩
    obtain ⟨t', a1, b1⟩ := su_7 s hO hr
    refine ⟨Int32.toInt64 (FR n (r + 1) p1), t', a1, ?_, ?_⟩
    · rw [su_6 s hr, ob_s, e, nI_1, pf_6 (by omega) (by omega) (by omega), ob_s]
    · rw [b1, ob_s, e, nI_1, fr_7 (by omega) (by omega) (by omega), ob_s]
end ODDS
