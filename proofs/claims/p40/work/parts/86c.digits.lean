/-! digits -/
theorem dl_ {P a t : Nat} (hP : 2 ≤ P) (h : a < 2 ^ (t + 1)) : a / P < 2 ^ t := by
  apply Nat.div_lt_of_lt_mul
  have : 2 * 2 ^ t ≤ P * 2 ^ t := Nat.mul_le_mul_right _ hP
  have e : 2 ^ (t + 1) = 2 ^ t * 2 := Nat.pow_succ 2 t
  omega
theorem ca_L {P : Nat} (hP : 2 ≤ P) (hP7 : P ≤ 7) : ∀ (t a b h i f f' : Nat) (n : Int32), a < 2 ^ t → b < 2 ^ t → a < 2 ^ 20 → b < 2 ^ 20 → i + t = 14 → h ≤ 1 → t < f → t < f' → ∃ v, f_X0_carries_L23 (fun x => some x) (nI P) f (nI a) (nI b) (nI h) n (nI i) = some v ∧ f_X7_carries_L21 (fun x => some x) (nI P) f' (nI a) (nI b) (nI h) n = some v := by
  intro t
  induction t with
  | zero =>
    intro a b h i f f' n ha hb ha2 hb2 hi hh hf hf'
    obtain ⟨f, rfl⟩ : ∃ g, f = g + 1 := ⟨f - 1, by omega⟩
    obtain ⟨f', rfl⟩ : ∃ g, f' = g + 1 := ⟨f' - 1, by omega⟩
    have e1 : a = 0 := by omega
    have e2 : b = 0 := by omega
    subst e1 e2
    simp only [f_X0_carries_L23_s, f_X7_carries_L21_s, zl_0, zl_1, zl_14]
    rw [if_neg (fun z => z.1 (le_t (by omega) (by omega))), if_neg (fun z => z.elim (nI_nlt (by omega) (by omega)) (fun q => q (le_t (by omega) (by omega))))]
    exact ⟨n, rfl, rfl⟩
  | succ t ih =>
    intro a b h i f f' n ha hb ha2 hb2 hi hh hf hf'
    obtain ⟨f, rfl⟩ : ∃ g, f = g + 1 := ⟨f - 1, by omega⟩
    obtain ⟨f', rfl⟩ : ∃ g, f' = g + 1 := ⟨f' - 1, by omega⟩
    simp only [f_X0_carries_L23_s, f_X7_carries_L21_s, zl_0, zl_1, zl_14]
    by_cases e : a = 0 ∧ b = 0
    · rw [if_neg (fun z => z.2.elim (nI_nlt (by omega) (by omega)) (fun q => q (le_t (by omega) (by omega)))), if_neg (fun z => z.elim (nI_nlt (by omega) (by omega)) (fun q => q (le_t (by omega) (by omega))))]
      exact ⟨n, rfl, rfl⟩
    · have c : nI 0 < nI a ∨ ¬ nI b ≤ nI 0 := by
        rw [nI_ltI (by omega) (by omega), nI_leI (by omega) (by omega)]
        omega
      rw [if_pos ⟨le_f (by omega) (by omega), c⟩, if_pos c]
      rw [md_n (by omega) (by omega) (by omega), ob_s, md_n (by omega) (by omega) (by omega), ob_s, qn_s, dv_n (by omega) (by omega) (by omega), ob_s, dv_n (by omega) (by omega) (by omega), ob_s, ob_s, ob_s, qn_s, ob_s, ob_s]
      have l1 := Nat.mod_lt a (show 0 < P by omega)
      have l2 := Nat.mod_lt b (show 0 < P by omega)
      rw [nI_add, nI_add, nI_add]
      have l3 := Nat.div_le_self a P
      have l4 := Nat.div_le_self b P
      by_cases c2 : a % P + b % P + h < P
      · rw [if_neg (fun z => z (nI_lt c2 (by omega)))]
        exact ih (a / P) (b / P) 0 (i + 1) f f' _ (dl_ hP ha) (dl_ hP hb) (by omega) (by omega) (by omega) (by omega) (by omega) (by omega)
      · rw [if_pos (nI_nlt (by omega) (by omega))]
        exact ih (a / P) (b / P) 1 (i + 1) f f' _ (dl_ hP ha) (dl_ hP hb) (by omega) (by omega) (by omega) (by omega) (by omega) (by omega)
theorem ca_ {g : Nat → Int32} {P E : Nat} (h : PE P E) (hg : GP g P E) {r c : Nat} (hr : r ≤ 127) (hc : c ≤ r) : ∃ v, f_X0_carries (nI P) (nI r) (nI c) = some v ∧ f_X7_carries (nI r) (nI c) g = some v := by
  have hm := h.m
  unfold f_X0_carries f_X7_carries
  rw [zl_2, if_pos (le_t (by omega) (by omega)), zl_0, rd_n (by omega) (by omega), ob_s, hg.1, pk_sub hc]
  exact ca_L (by omega) (by omega) 14 c (r - c) 0 0 5000 5000 (nI 0) (by omega) (by omega) (by omega) (by omega) (by omega) (by omega) (by omega) (by omega)
theorem le_L {P : Nat} (hP : 2 ≤ P) (hP7 : P ≤ 7) {g : Nat → Int32} (hg : g 0 = nI P) {r c : Nat} (hr : r ≤ 127) (hc : c ≤ r) : ∀ (t q i f f' : Nat) (n : Int32), r / q < 2 ^ t → 0 < q → q ≤ 1000 → i + t = 14 → t < f → t < f' → ∃ v, f_X0_legendre_L29 (fun x => some x) (nI P) f n (nI (r / q)) (nI (c / q)) (nI ((r - c) / q)) (nI i) = some v ∧ f_X7_legendre_L10 (fun x => some x) (nI r) (nI c) g f' n (nI q) = some v := by
  intro t
  induction t with
  | zero =>
    intro q i f f' n ha hq hq2 hi hf hf'
    obtain ⟨f, rfl⟩ : ∃ g, f = g + 1 := ⟨f - 1, by omega⟩
    obtain ⟨f', rfl⟩ : ∃ g, f' = g + 1 := ⟨f' - 1, by omega⟩
    simp only [f_X0_legendre_L29_s, f_X7_legendre_L10_s, zl_0, zl_1, zl_14]
    have e : r < q := by
      have e0 : r / q = 0 := Nat.lt_one_iff.mp ha
      have h1 := Nat.mod_lt r hq
      have h2 := Nat.div_add_mod r q
      rw [e0, Nat.mul_zero] at h2
      omega
    rw [if_neg (fun z => z.1 (le_t (by omega) (by omega))), if_pos (nI_lt e (by omega))]
    exact ⟨n, rfl, rfl⟩
  | succ t ih =>
    intro q i f f' n ha hq hq2 hi hf hf'
    obtain ⟨f, rfl⟩ : ∃ g, f = g + 1 := ⟨f - 1, by omega⟩
    obtain ⟨f', rfl⟩ : ∃ g, f' = g + 1 := ⟨f' - 1, by omega⟩
    simp only [f_X0_legendre_L29_s, f_X7_legendre_L10_s, zl_0, zl_1, zl_14]
    have k1 := Nat.div_le_self r q
    have k2 := Nat.div_le_self c q
    have k3 := Nat.div_le_self (r - c) q
    by_cases e : r < q
    · rw [Nat.div_eq_of_lt e, if_neg (fun z => z.2 (le_t (by omega) (by omega))), if_pos (nI_lt e (by omega))]
      exact ⟨n, rfl, rfl⟩
    · have e0 : 0 < r / q := Nat.div_pos (by omega) hq
      rw [if_pos ⟨le_f (by omega) (by omega), le_f e0 (by omega)⟩, if_neg (nI_nlt (by omega) (by omega))]
      rw [dv_n (a := r / q) (by omega) (by omega) (by omega), ob_s, dv_n (a := c / q) (by omega) (by omega) (by omega), ob_s, dv_n (a := (r - c) / q) (by omega) (by omega) (by omega), ob_s]
      rw [dv_n (by omega) (by omega) (by omega), ob_s, dv_n (by omega) (by omega) (by omega), ob_s, pk_sub hc, dv_n (by omega) (by omega) (by omega), ob_s, rd_n (by omega) (by omega), ob_s, hg, pk_mul, nI_add, Nat.div_div_eq_div_mul, Nat.div_div_eq_div_mul, Nat.div_div_eq_div_mul]
      have hq3 : q * P ≤ 127 * 7 := Nat.mul_le_mul (by omega) hP7
      exact ih (q * P) (i + 1) f f' _ (by rw [← Nat.div_div_eq_div_mul]; exact dl_ hP ha) (Nat.mul_pos hq (by omega)) (by omega) (by omega) (by omega) (by omega)
theorem le_ {g : Nat → Int32} {P E : Nat} (h : PE P E) (hg : GP g P E) {r c : Nat} (hr : r ≤ 127) (hc : c ≤ r) : ∃ v, f_X0_legendre (nI P) (nI r) (nI c) = some v ∧ f_X7_legendre (nI r) (nI c) g = some v := by
  have hm := h.m
  unfold f_X0_legendre f_X7_legendre
  have k1 := Nat.div_le_self r P
  rw [zl_2, if_pos (le_t (by omega) (by omega)), zl_0, dv_n (by omega) (by omega) (by omega), ob_s, dv_n (by omega) (by omega) (by omega), ob_s, pk_sub hc, dv_n (by omega) (by omega) (by omega), ob_s, rd_n (by omega) (by omega), ob_s, hg.1]
  exact le_L (by omega) (by omega) hg.1 hr hc 14 P 0 5000 5000 (nI 0) (by omega) (by omega) (by omega) (by omega) (by omega) (by omega)
theorem wi_L {P : Nat} (hP : 2 ≤ P) (hP7 : P ≤ 7) {g : Nat → Int32} (hg : g 0 = nI P) : ∀ (t a b i f f' : Nat), b < 2 ^ t → a < 2 ^ 20 → b < 2 ^ 20 → i + t = 14 → t < f → t < f' → ∃ v, f_X0_isCovered_L15 (some 1) (nI P) f (nI a) (nI b) (nI i) = some v ∧ f_X7_within_L5 (some 1) g f' (nI a) (nI b) = some v ∧ (v = 0 ∨ v = 1) := by
  intro t
  induction t with
  | zero =>
    intro a b i f f' hb ha2 hb2 hi hf hf'
    obtain ⟨f, rfl⟩ : ∃ g, f = g + 1 := ⟨f - 1, by omega⟩
    obtain ⟨f', rfl⟩ : ∃ g, f' = g + 1 := ⟨f' - 1, by omega⟩
    have e2 : b = 0 := by omega
    subst e2
    simp only [f_X0_isCovered_L15_s, f_X7_within_L5_s, zl_0, zl_1, zl_14]
    rw [if_neg (fun z => z.1 (le_t (by omega) (by omega))), if_pos (le_t (by omega) (by omega))]
    exact ⟨1, rfl, rfl, Or.inr rfl⟩
  | succ t ih =>
    intro a b i f f' hb ha2 hb2 hi hf hf'
    obtain ⟨f, rfl⟩ : ∃ g, f = g + 1 := ⟨f - 1, by omega⟩
    obtain ⟨f', rfl⟩ : ∃ g, f' = g + 1 := ⟨f' - 1, by omega⟩
    simp only [f_X0_isCovered_L15_s, f_X7_within_L5_s, zl_0, zl_1, zl_14]
    by_cases e : b = 0
    · subst e
      rw [if_neg (fun z => z.2 (le_t (by omega) (by omega))), if_pos (le_t (by omega) (by omega))]
      exact ⟨1, rfl, rfl, Or.inr rfl⟩
    · rw [if_pos ⟨le_f (by omega) (by omega), le_f (by omega) (by omega)⟩, if_neg (le_f (by omega) (by omega))]
      have r0 : rd_ g 64 (nI 0) = some (nI P) := by rw [rd_n (by omega) (by omega), hg]
      simp only [r0, ob_s]
      rw [md_n (a := b) (by omega) (by omega) (by omega), ob_s, md_n (a := a) (by omega) (by omega) (by omega), ob_s, ob_s, ob_s]
      have l1 := Nat.mod_lt a (show 0 < P by omega)
      have l2 := Nat.mod_lt b (show 0 < P by omega)
      have l3 := Nat.div_le_self a P
      have l4 := Nat.div_le_self b P
      by_cases c : b % P ≤ a % P
      · rw [if_pos (le_t c (by omega)), if_pos (le_t c (by omega)), dv_n (a := a) (by omega) (by omega) (by omega), ob_s, dv_n (a := b) (by omega) (by omega) (by omega), ob_s, ob_s, ob_s, nI_add]
        exact ih (a / P) (b / P) (i + 1) f f' (dl_ hP hb) (by omega) (by omega) (by omega) (by omega) (by omega)
      · rw [if_neg (le_f (by omega) (by omega)), if_neg (le_f (by omega) (by omega))]
        exact ⟨0, rfl, rfl, Or.inl rfl⟩
theorem wi_ {g : Nat → Int32} {P E : Nat} (h : PE P E) (hg : GP g P E) {r c : Nat} (hr : r ≤ 127) (hc : c ≤ r) : ∃ v, f_X0_isCovered (nI P) (nI r) (nI c) = some v ∧ f_X7_within (nI r) (nI c) g = some v ∧ (v = 0 ∨ v = 1) := by
  have hm := h.m
  unfold f_X0_isCovered f_X7_within
  rw [zl_2, if_pos (le_t (by omega) (by omega)), zl_0]
  exact wi_L (by omega) (by omega) hg.1 14 r c 0 5000 5000 (by omega) (by omega) (by omega) (by omega) (by omega) (by omega)
theorem sm_ : ∀ a < 7, ∀ b < 7, f_X7_small (nI a) (nI b) = some (nI (bn a b)) ∧ bn a b % 1944810000 = bn a b ∧ bn a b ≤ 20 := by decide +kernel
theorem lu_L {P : Nat} (hP : 2 ≤ P) (hP7 : P ≤ 7) {g : Nat → Int32} (hg : g 0 = nI P) {h : Nat → Int32} (hT : HT h) {k : Int32 → Option Int32} (hk : ∀ v, v < P → k (nI v) = some (nI v)) : ∀ (t v a b i f f' : Nat), a < 2 ^ t → b ≤ a → v < P → a < 2 ^ 20 → i + t = 14 → t < f → t < f' → ∃ v', f_X5_lucas_L19 (fun x => some x) (nI P) h f (nI v) (nI a) (nI b) (nI i) = some (nI v') ∧ f_X7_lucas_L8 k g f' (nI v) (nI a) (nI b) = some (nI v') := by
  intro t
  induction t with
  | zero =>
    intro v a b i f f' ha hb hv ha2 hi hf hf'
    obtain ⟨f, rfl⟩ : ∃ g, f = g + 1 := ⟨f - 1, by omega⟩
    obtain ⟨f', rfl⟩ : ∃ g, f' = g + 1 := ⟨f' - 1, by omega⟩
    have e1 : a = 0 := by omega
    have e2 : b = 0 := by omega
    subst e1 e2
    simp only [f_X5_lucas_L19_s, f_X7_lucas_L8_s, zl_0, zl_1, zl_14]
    rw [if_neg (fun z => z.1 (le_t (by omega) (by omega))), if_neg (fun z => z.elim (nI_nlt (by omega) (by omega)) (fun q => q (le_t (by omega) (by omega)))), hk v hv]
    exact ⟨v, rfl, rfl⟩
  | succ t ih =>
    intro v a b i f f' ha hb hv ha2 hi hf hf'
    obtain ⟨f, rfl⟩ : ∃ g, f = g + 1 := ⟨f - 1, by omega⟩
    obtain ⟨f', rfl⟩ : ∃ g, f' = g + 1 := ⟨f' - 1, by omega⟩
    simp only [f_X5_lucas_L19_s, f_X7_lucas_L8_s, zl_0, zl_1, zl_14]
    have r0 : rd_ g 64 (nI 0) = some (nI P) := by rw [rd_n (by omega) (by omega), hg]
    by_cases e : a = 0
    · have e2 : b = 0 := by omega
      subst e e2
      rw [if_neg (fun z => z.2 (le_t (by omega) (by omega))), if_neg (fun z => z.elim (nI_nlt (by omega) (by omega)) (fun q => q (le_t (by omega) (by omega)))), hk v hv]
      exact ⟨v, rfl, rfl⟩
    · rw [if_pos ⟨le_f (by omega) (by omega), le_f (by omega) (by omega)⟩, if_pos (Or.inl (nI_lt (by omega) (by omega)))]
      simp only [r0, ob_s]
      rw [md_n (a := a) (by omega) (by omega) (by omega), ob_s, md_n (a := b) (by omega) (by omega) (by omega), ob_s]
      have l1 := Nat.mod_lt a (show 0 < P by omega)
      have l2 := Nat.mod_lt b (show 0 < P by omega)
      have s := sm_ (a % P) (by omega) (b % P) (by omega)
      have cl : f_X5_cell (nI (a % P)) (nI (b % P)) h = some (nI (bn (a % P) (b % P))) := by
        by_cases q : b % P ≤ a % P
        · rw [cl_n (by omega) q (fun c' h' => hT _ c' (by omega) h'), s.2.1]
        · rw [cl_0 (Or.inr (Or.inr (Or.inr (le_f (by omega) (by omega))))), bn_gt _ _ (by omega)]
          rfl
      have l5 : v * bn (a % P) (b % P) ≤ 7 * 20 := Nat.mul_le_mul (by omega) s.2.2
      rw [cl, ob_s, ob_s, ob_s, s.1, ob_s, pk_mul, md_n (by omega) (by omega) (by omega), ob_s, ob_s, dv_n (a := a) (by omega) (by omega) (by omega), ob_s, ob_s, dv_n (a := b) (by omega) (by omega) (by omega), ob_s, ob_s, nI_add]
      have l3 := Nat.div_le_self a P
      exact ih _ (a / P) (b / P) (i + 1) f f' (dl_ hP ha) (Nat.div_le_div_right hb) (Nat.mod_lt _ (by omega)) (by omega) (by omega) (by omega) (by omega)
theorem lu_ {g : Nat → Int32} {P E : Nat} (h : PE P E) (hg : GP g P E) {H : Nat → Int32} (hT : HT H) {r c : Nat} (hr : r ≤ 127) (hc : c ≤ r) : ∃ v, f_X5_lucas (nI P) (nI r) (nI c) H = some v ∧ f_X7_lucas (nI r) (nI c) g = some v := by
  have hm := h.m
  unfold f_X5_lucas f_X7_lucas
  rw [zl_2, if_pos (le_t (by omega) (by omega)), zl_0, zl_1]
  obtain ⟨v, a, b⟩ := lu_L (P := P) (by omega) (by omega) hg.1 hT (k := (fun x3_8 => (Option.bind (rd_ g 64 (nI 0)) (fun g_17 => (Option.bind (md_ x3_8 g_17) (fun d_18 => (some d_18))))))) (fun v hv => by rw [rd_n (by omega) (by omega), ob_s, hg.1, md_n (by omega) (by omega) (by omega), ob_s, Nat.mod_eq_of_lt hv]) 14 1 r c 0 5000 5000 (by omega) hc (by omega) (by omega) (by omega) (by omega) (by omega)
  exact ⟨nI v, a, b⟩
/-! what a rule tells -/
def SET (P E : Nat) (h g : Nat → Int32) : Prop := PE P E ∧ GP g P E ∧ HT h
theorem SET.r {P E : Nat} {h g : Nat → Int32} (s : SET P E h g) (x y : Int32) : f_X3_remainder x y h (nI (P ^ E)) = some (RI (P ^ E) x y) := by
  have hm := s.1.m
  exact rm_3 ⟨by omega, by omega, hm.2.2.1⟩ s.2.2 x y
theorem te_ {P E : Nat} {h g : Nat → Int32} (s : SET P E h g) {t : (Nat → Int32) × Int32} (hO : OK t) {k r c : Nat} (hk : k ≤ 4) (hr : r ≤ 127) (hc : c ≤ r) : ∃ v t', OK t' ∧ f_X3_tell (nI k) (nI r) (nI c) h (nI P) (nI (P ^ E)) = some v ∧ f_X7_tells (nI k) (nI r) (nI c) g t.1 t.2 = some (v, t'.1, t'.2) := by
  have hm := s.1.m
  have e : k = 0 ∨ k = 1 ∨ k = 2 ∨ k = 3 ∨ k = 4 := by omega
  unfold f_X3_tell f_X7_tells
  rcases e with rfl | rfl | rfl | rfl | rfl
  · obtain ⟨t', a, b⟩ := rm_7 s.1 s.2.1 hO (nI r) (nI c)
    refine ⟨RI (P ^ E) (nI r) (nI c), t', a, ?_, ?_⟩
    · rw [if_pos (by decide), rm_5 ⟨by omega, by omega, hm.2.2.1⟩ s.2.2, ob_s]
    · rw [if_pos (by decide), b, ob_s]
  · obtain ⟨v, a, b⟩ := lu_ s.1 s.2.1 s.2.2 hr hc
    refine ⟨v, t, hO, ?_, ?_⟩
    · rw [if_neg (by decide), if_pos (by decide), a, ob_s]
    · rw [if_neg (by decide), if_pos (by decide), b, ob_s]
  · obtain ⟨v, a, b⟩ := ca_ s.1 s.2.1 hr hc
    refine ⟨v, t, hO, ?_, ?_⟩
    · rw [if_neg (by decide), if_neg (by decide), if_pos (by decide), a, ob_s]
    · rw [if_neg (by decide), if_neg (by decide), if_pos (by decide), b, ob_s]
  · obtain ⟨v, a, b⟩ := le_ s.1 s.2.1 hr hc
    refine ⟨v, t, hO, ?_, ?_⟩
    · rw [if_neg (by decide), if_neg (by decide), if_neg (by decide), if_pos (by decide), a, ob_s]
    · rw [if_neg (by decide), if_neg (by decide), if_neg (by decide), if_pos (by decide), b, ob_s]
  · obtain ⟨v, a, b, q⟩ := wi_ s.1 s.2.1 hr hc
    refine ⟨v, t, hO, ?_, ?_⟩
    · rw [if_neg (by decide), if_neg (by decide), if_neg (by decide), if_neg (by decide), a, ob_s]
      rcases q with rfl | rfl <;> rfl
    · rw [if_neg (by decide), if_neg (by decide), if_neg (by decide), if_neg (by decide), b, ob_s]
/-- what the class tells -/
def TV (h : Nat → Int32) (P M k r c : Nat) : Int32 := (f_X3_tell (nI k) (nI r) (nI c) h (nI P) (nI M)).getD 0
theorem tv_ {P E : Nat} {h g : Nat → Int32} (s : SET P E h g) {t : (Nat → Int32) × Int32} (hO : OK t) {k r c : Nat} (hk : k ≤ 4) (hr : r ≤ 127) (hc : c ≤ r) : f_X3_tell (nI k) (nI r) (nI c) h (nI P) (nI (P ^ E)) = some (TV h P (P ^ E) k r c) ∧ ∃ t', OK t' ∧ f_X7_tells (nI k) (nI r) (nI c) g t.1 t.2 = some (TV h P (P ^ E) k r c, t'.1, t'.2) := by
  obtain ⟨v, t', a, b, c'⟩ := te_ s hO hk hr hc
  have e : TV h P (P ^ E) k r c = v := by
    unfold TV
    rw [b]
    rfl
  rw [e]
  exact ⟨b, t', a, c'⟩
theorem tv_c {P E : Nat} {h g : Nat → Int32} (s : SET P E h g) {k r c : Nat} (hk : k ≤ 4) (hr : r ≤ 127) (hc : c ≤ r) : f_X3_tell (nI k) (nI r) (nI c) h (nI P) (nI (P ^ E)) = some (TV h P (P ^ E) k r c) := (tv_ (t := (fun _ => 0, 0)) s (Or.inl rfl) hk hr hc).1
