/-! rows -/
theorem ld_ {α : Type} (F : Nat → Nat → Option α) (n : Nat) (o : Option α) (hs : ∀ f i, i < n → F (f + 1) i = F f (i + 1)) (he : ∀ f, F (f + 1) n = o) : ∀ (d i f : Nat), i + d = n → d < f → F f i = o := by
  intro d
  induction d with
  | zero =>
    intro i f h hf
    obtain ⟨f', rfl⟩ : ∃ f', f = f' + 1 := ⟨f - 1, by omega⟩
    have e : i = n := by omega
    subst e
    exact he f'
  | succ d ih =>
    intro i f h hf
    obtain ⟨f', rfl⟩ : ∃ f', f = f' + 1 := ⟨f - 1, by omega⟩
    rw [hs f' i (by omega)]
    exact ih (i + 1) f' (by omega) (by omega)
theorem ldt_ {α τ : Type} (K : τ → Prop) (F : Nat → Nat → τ → Option α) (n : Nat) (Q : Option α → Prop) (hs : ∀ f i t, i < n → K t → ∃ t', K t' ∧ F (f + 1) i t = F f (i + 1) t') (he : ∀ f t, K t → Q (F (f + 1) n t)) : ∀ (d i f : Nat) (t : τ), i + d = n → d < f → K t → Q (F f i t) := by
  intro d
  induction d with
  | zero =>
    intro i f t h hf hK
    obtain ⟨f', rfl⟩ : ∃ f', f = f' + 1 := ⟨f - 1, by omega⟩
    have e : i = n := by omega
    subst e
    exact he f' t hK
  | succ d ih =>
    intro i f t h hf hK
    obtain ⟨f', rfl⟩ : ∃ f', f = f' + 1 := ⟨f - 1, by omega⟩
    obtain ⟨t', h1, h2⟩ := hs f' i t (by omega) hK
    rw [h2]
    exact ih (i + 1) f' t' (by omega) (by omega) h1
abbrev TR : Type := (Nat → Int32) × Int32
section ROWS
variable {P E : Nat} {h g : Nat → Int32} {t : TR}
def CN (M r : Nat) (v : Int32) : Int32 := fo_ (fun c a => if RI M (nI r) (nI c) = v then a + 1 else a) (r + 1) 0 0
theorem co_6 (s : SET P E h g) {r : Nat} (hr : r ≤ 127) (v : Int32) : f_X6_countOf (nI r) v h (nI (P ^ E)) = some (CN (P ^ E) r v) := by
  unfold f_X6_countOf CN
  refine lf_ (fun f i a => f_X6_countOf_L5 (fun x => some x) (nI r) v h (nI (P ^ E)) f a (nI i)) _ (fun x => some x) (r + 1) ?_ ?_ (r + 1) 0 5000 0 (by omega) (by omega)
  · intro f i a hi
    show f_X6_countOf_L5 _ _ _ _ _ (f + 1) a (nI i) = f_X6_countOf_L5 _ _ _ _ _ f _ (nI (i + 1))
    rw [f_X6_countOf_L5_s, if_neg (nI_nlt (by omega) (by omega)), s.r, ob_s, nI_1, ite_not]
  · intro f a
    show f_X6_countOf_L5 _ _ _ _ _ (f + 1) a (nI (r + 1)) = _
    rw [f_X6_countOf_L5_s, if_pos (nI_lt (by omega) (by omega))]
theorem ad_if {a : Int32} {p : Prop} {i : Decidable p} : a + (if p then 1 else 0) = if p then a + 1 else a := by
  by_cases h : p
  · rw [if_pos h, if_pos h]
  · rw [if_neg h, if_neg h, Int32.add_zero]
theorem co_7 (s : SET P E h g) (hO : OK t) {r : Nat} (hr : r ≤ 127) (v : Int32) : ∃ t', OK t' ∧ f_X7_countOf (nI r) v g t.1 t.2 = some (CN (P ^ E) r v, t'.1, t'.2) := by
  unfold f_X7_countOf CN
  refine lt_ (τ := TR) OK (fun f i a t => f_X7_countOf_L5 (fun x y z => some (x, y, z)) (nI r) v g f a (nI i) t.1 t.2) _ (fun x t => some (x, t.1, t.2)) (r + 1) ?_ ?_ (r + 1) 0 5000 0 t (by omega) (by omega) hO
  · intro f i a t hi hO
    obtain ⟨t', a1, b1⟩ := rm_7 s.1 s.2.1 hO (nI r) (nI i)
    refine ⟨t', a1, ?_⟩
    show f_X7_countOf_L5 _ _ _ _ (f + 1) a (nI i) t.1 t.2 = f_X7_countOf_L5 _ _ _ _ f _ (nI (i + 1)) t'.1 t'.2
    rw [f_X7_countOf_L5_s, if_neg (nI_nlt (by omega) (by omega)), b1, ob_s, nI_1, ad_if]
  · intro f a t hO
    refine ⟨t, hO, ?_⟩
    show f_X7_countOf_L5 _ _ _ _ (f + 1) a (nI (r + 1)) t.1 t.2 = _
    rw [f_X7_countOf_L5_s, if_pos (nI_lt (by omega) (by omega))]
def SM (M r : Nat) : Int32 := fo_ (fun c a => a + RI M (nI r) (nI c)) (r + 1) 0 0
theorem su_6 (s : SET P E h g) {r : Nat} (hr : r ≤ 127) : f_X6_sumOf (nI r) h (nI (P ^ E)) = some (SM (P ^ E) r) := by
  unfold f_X6_sumOf SM
  refine lf_ (fun f i a => f_X6_sumOf_L4 (fun x => some x) (nI r) h (nI (P ^ E)) f a (nI i)) _ (fun x => some x) (r + 1) ?_ ?_ (r + 1) 0 5000 0 (by omega) (by omega)
  · intro f i a hi
    show f_X6_sumOf_L4 _ _ _ _ (f + 1) a (nI i) = f_X6_sumOf_L4 _ _ _ _ f _ (nI (i + 1))
    rw [f_X6_sumOf_L4_s, if_neg (nI_nlt (by omega) (by omega)), s.r, ob_s, nI_1]
  · intro f a
    show f_X6_sumOf_L4 _ _ _ _ (f + 1) a (nI (r + 1)) = _
    rw [f_X6_sumOf_L4_s, if_pos (nI_lt (by omega) (by omega))]
theorem su_7 (s : SET P E h g) (hO : OK t) {r : Nat} (hr : r ≤ 127) : ∃ t', OK t' ∧ f_X7_sumOf (nI r) g t.1 t.2 = some (SM (P ^ E) r, t'.1, t'.2) := by
  unfold f_X7_sumOf SM
  refine lt_ (τ := TR) OK (fun f i a t => f_X7_sumOf_L4 (fun x y z => some (x, y, z)) (nI r) g f a (nI i) t.1 t.2) _ (fun x t => some (x, t.1, t.2)) (r + 1) ?_ ?_ (r + 1) 0 5000 0 t (by omega) (by omega) hO
  · intro f i a t hi hO
    obtain ⟨t', a1, b1⟩ := rm_7 s.1 s.2.1 hO (nI r) (nI i)
    refine ⟨t', a1, ?_⟩
    show f_X7_sumOf_L4 _ _ _ (f + 1) a (nI i) t.1 t.2 = f_X7_sumOf_L4 _ _ _ f _ (nI (i + 1)) t'.1 t'.2
    rw [f_X7_sumOf_L4_s, if_neg (nI_nlt (by omega) (by omega)), b1, ob_s, nI_1]
  · intro f a t hO
    refine ⟨t, hO, ?_⟩
    show f_X7_sumOf_L4 _ _ _ (f + 1) a (nI (r + 1)) t.1 t.2 = _
    rw [f_X7_sumOf_L4_s, if_pos (nI_lt (by omega) (by omega))]
/-! the depth -/
def CV (P r c : Nat) : Int32 := (f_X0_carries (nI P) (nI r) (nI c)).getD 0
theorem cv_ (s : SET P E h g) {r c : Nat} (hr : r ≤ 127) (hc : c ≤ r) : f_X0_carries (nI P) (nI r) (nI c) = some (CV P r c) ∧ f_X7_carries (nI r) (nI c) g = some (CV P r c) := by
  obtain ⟨v, a, b⟩ := ca_ s.1 s.2.1 hr hc
  have e : CV P r c = v := by
    unfold CV
    rw [a]
    rfl
  rw [e]
  exact ⟨a, b⟩
def DP (P r : Nat) : Int32 := fo_ (fun c a => if a < CV P r c then CV P r c else a) (r + 1) 0 0
theorem de_6 (s : SET P E h g) {r : Nat} (hr : r ≤ 127) : f_X6_depthOf (nI r) (nI P) = some (DP P r) := by
  unfold f_X6_depthOf DP
  refine lf_ (fun f i a => f_X6_depthOf_L4 (fun x => some x) (nI r) (nI P) f a (nI i)) _ (fun x => some x) (r + 1) ?_ ?_ (r + 1) 0 5000 0 (by omega) (by omega)
  · intro f i a hi
    show f_X6_depthOf_L4 _ _ _ (f + 1) a (nI i) = f_X6_depthOf_L4 _ _ _ f _ (nI (i + 1))
    rw [f_X6_depthOf_L4_s, if_neg (nI_nlt (by omega) (by omega)), (cv_ s hr (by omega)).1, ob_s, nI_1]
  · intro f a
    show f_X6_depthOf_L4 _ _ _ (f + 1) a (nI (r + 1)) = _
    rw [f_X6_depthOf_L4_s, if_pos (nI_lt (by omega) (by omega))]
theorem de_7 (s : SET P E h g) {r : Nat} (hr : r ≤ 127) (k : Int32 → Option (Int32 × (Nat → Int32) × Int32)) : f_X7_row_L116 k (nI r) g 5000 0 0 = k (DP P r) := by
  unfold DP
  refine lf_ (fun f i a => f_X7_row_L116 k (nI r) g f a (nI i)) _ k (r + 1) ?_ ?_ (r + 1) 0 5000 0 (by omega) (by omega)
  · intro f i a hi
    show f_X7_row_L116 _ _ _ (f + 1) a (nI i) = f_X7_row_L116 _ _ _ f _ (nI (i + 1))
    rw [f_X7_row_L116_s, if_neg (nI_nlt (by omega) (by omega)), (cv_ s hr (by omega)).2, ob_s, nI_1]
  · intro f a
    show f_X7_row_L116 _ _ _ (f + 1) a (nI (r + 1)) = _
    rw [f_X7_row_L116_s, if_pos (nI_lt (by omega) (by omega))]
/-! kinds -/
def cq (M r v : Nat) : Nat → Nat
  | 0 => 0
  | n + 1 => cq M r v n + (if bn r n % M = v then 1 else 0)
def cl (M r w : Nat) : Nat → Nat
  | 0 => 0
  | n + 1 => cl M r w n + (if bn r n % M < w then 1 else 0)
theorem cq_le (M r v : Nat) : ∀ n, cq M r v n ≤ n
  | 0 => Nat.le_refl _
  | n + 1 => by
    have := cq_le M r v n
    show cq M r v n + _ ≤ n + 1
    split <;> omega
theorem cl_le (M r v : Nat) : ∀ n, cl M r v n ≤ n
  | 0 => Nat.le_refl _
  | n + 1 => by
    have := cl_le M r v n
    show cl M r v n + _ ≤ n + 1
    split <;> omega
theorem cl_s (M r w : Nat) : ∀ n, cl M r (w + 1) n = cl M r w n + cq M r w n
  | 0 => rfl
  | n + 1 => by
    have := cl_s M r w n
    show cl M r (w + 1) n + _ = (cl M r w n + _) + (cq M r w n + _)
    rw [this]
    by_cases a : bn r n % M < w
    · rw [if_pos (by omega), if_pos a, if_neg (by omega)]
      omega
    · rw [if_neg a]
      by_cases b : bn r n % M = w
      · rw [if_pos (by omega), if_pos b]
        omega
      · rw [if_neg (by omega), if_neg b]
        omega
theorem cl_full (M r w : Nat) : ∀ n, cl M r w n = n → ∀ c, c < n → bn r c % M < w
  | 0, _, c, hc => by omega
  | n + 1, e, c, hc => by
    have l := cl_le M r w n
    have e' : cl M r w n + (if bn r n % M < w then 1 else 0) = n + 1 := e
    by_cases a : bn r n % M < w
    · rw [if_pos a] at e'
      by_cases q : c = n
      · rw [q]
        exact a
      · exact cl_full M r w n (by omega) c (by omega)
    · rw [if_neg a] at e'
      omega
theorem cq_0 (M r v : Nat) : ∀ n, (∀ c, c < n → bn r c % M ≠ v) → cq M r v n = 0
  | 0, _ => rfl
  | n + 1, h => by
    show cq M r v n + _ = 0
    rw [cq_0 M r v n (fun c hc => h c (by omega)), if_neg (h n (by omega))]
theorem cq_p (M r v : Nat) : ∀ n c, c < n → bn r c % M = v → 0 < cq M r v n
  | 0, c, hc, _ => by omega
  | n + 1, c, hc, e => by
    show 0 < cq M r v n + _
    by_cases q : c = n
    · subst q
      rw [if_pos e]
      omega
    · have := cq_p M r v n c (by omega) e
      omega
def ct (M r v : Nat) : Nat := cq M r v (r + 1)
def nk (M r : Nat) : Nat → Nat
  | 0 => 0
  | w + 1 => nk M r w + (if 0 < ct M r w then 1 else 0)
theorem nk_le (M r : Nat) : ∀ w, nk M r w ≤ cl M r w (r + 1)
  | 0 => Nat.zero_le _
  | w + 1 => by
    have := nk_le M r w
    rw [cl_s]
    show nk M r w + _ ≤ _
    unfold ct
    split <;> omega
theorem nk_m (M r w : Nat) : ∀ d, nk M r w ≤ nk M r (w + d)
  | 0 => Nat.le_refl _
  | d + 1 => by
    have := nk_m M r w d
    show _ ≤ nk M r (w + d) + _
    omega
theorem nk_e (M r w : Nat) : ∀ d, (∀ u, w ≤ u → u < w + d → ct M r u = 0) → nk M r (w + d) = nk M r w
  | 0, _ => rfl
  | d + 1, h => by
    show nk M r (w + d) + (if 0 < ct M r (w + d) then 1 else 0) = _
    rw [nk_e M r w d (fun u h1 h2 => h u h1 (by omega)), h (w + d) (by omega) (by omega)]
    rfl
def us (M r : Nat) : Nat → Nat × Nat
  | 0 => (0, 0)
  | w + 1 => if (us M r w).2 < ct M r w then (w, ct M r w) else us M r w
theorem us_e (M r w : Nat) : ∀ d, (∀ u, w ≤ u → u < w + d → ct M r u = 0) → us M r (w + d) = us M r w
  | 0, _ => rfl
  | d + 1, h => by
    show (if (us M r (w + d)).2 < ct M r (w + d) then _ else us M r (w + d)) = _
    rw [h (w + d) (by omega) (by omega), if_neg (by omega)]
    exact us_e M r w d (fun u h1 h2 => h u h1 (by omega))
theorem us_m (M r : Nat) : ∀ w v, v < w → ct M r v ≤ (us M r w).2
  | 0, v, h => by omega
  | w + 1, v, h => by
    show _ ≤ (if (us M r w).2 < ct M r w then (w, ct M r w) else us M r w).2
    by_cases q : (us M r w).2 < ct M r w
    · rw [if_pos q]
      by_cases e : v = w
      · rw [e]
        exact Nat.le_refl _
      · have := us_m M r w v (by omega)
        show _ ≤ ct M r w
        omega
    · rw [if_neg q]
      by_cases e : v = w
      · rw [e]
        omega
      · exact us_m M r w v (by omega)
theorem us_b (M r : Nat) : ∀ w, (us M r w).1 ≤ w ∧ (us M r w).2 ≤ r + 1
  | 0 => ⟨Nat.le_refl _, Nat.zero_le _⟩
  | w + 1 => by
    have := us_b M r w
    show (if (us M r w).2 < ct M r w then (w, ct M r w) else us M r w).1 ≤ _ ∧ (if (us M r w).2 < ct M r w then (w, ct M r w) else us M r w).2 ≤ _
    split
    · exact ⟨Nat.le_succ w, cq_le M r w (r + 1)⟩
    · exact ⟨by omega, by omega⟩
theorem CN_n {M r v : Nat} (hr : r ≤ 127) (hv : v < 2 ^ 31) (hM : 1 < M ∧ M ≤ 2401) : CN M r (nI v) = nI (ct M r v) := by
  have := fo_i (g := fun c a => if RI M (nI r) (nI c) = nI v then a + 1 else a) (fun i a => a = nI (cq M r v i)) (r + 1) 0 0 (fun j a h1 h2 e => by
    show (if RI M (nI r) (nI j) = nI v then a + 1 else a) = nI (cq M r v j + _)
    have l := Nat.mod_lt (bn r j) (show 0 < M by omega)
    rw [RI_n hr (by omega), e]
    by_cases q : bn r j % M = v
    · rw [if_pos (by rw [q]), if_pos q, nI_1]
    · rw [if_neg (eq_f q (by omega) hv), if_neg q]
      rfl) rfl
  rw [Nat.zero_add] at this
  exact this
def vw (w : Nat) : Int32 := if w = 0 then -1 else nI (w - 1)
theorem m1_f {n : Nat} (h : n < 2 ^ 31) : ¬ nI n = -1 := fun z => by
  have e := congrArg Int32.toInt z
  rw [nI_toInt h, show (-1 : Int32).toInt = -1 from by decide] at e
  omega
theorem vw_s (w : Nat) : vw (w + 1) = nI w := if_neg (by omega)
theorem vw_le {x w : Nat} (hx : x < 2 ^ 31) (hw : w < 2 ^ 31) : nI x ≤ vw w ↔ x < w := by
  cases w with
  | zero =>
    rw [show vw 0 = -1 from rfl, Int32.le_iff_toInt_le, nI_toInt hx, show (-1 : Int32).toInt = -1 from by decide]
    omega
  | succ w =>
    rw [vw_s, nI_leI hx (by omega)]
    omega
def NK (M r w : Nat) (y : Int32) : Prop := (y = -1 ∧ ∀ c, c ≤ r → bn r c % M < w) ∨ ∃ u, y = nI u ∧ w ≤ u ∧ u < M ∧ (∃ c, c ≤ r ∧ bn r c % M = u) ∧ ∀ c, c ≤ r → w ≤ bn r c % M → u ≤ bn r c % M
theorem nx_ (s : SET P E h g) {r w : Nat} (hr : r ≤ 127) (hw : w ≤ P ^ E) : ∃ y, f_X6_nextKind (nI r) (vw w) h (nI (P ^ E)) = some y ∧ NK (P ^ E) r w y := by
  have hm := s.1.m
  unfold f_X6_nextKind
  refine lp_ (fun f i y => f_X6_nextKind_L5 (fun x => some x) (nI r) (vw w) h (nI (P ^ E)) f y (nI i)) (fun i y => (y = -1 ∧ ∀ c, c < i → bn r c % P ^ E < w) ∨ ∃ u, y = nI u ∧ w ≤ u ∧ u < P ^ E ∧ (∃ c, c < i ∧ bn r c % P ^ E = u) ∧ ∀ c, c < i → w ≤ bn r c % P ^ E → u ≤ bn r c % P ^ E) (r / 2 + 1) (fun o => ∃ y, o = some y ∧ NK (P ^ E) r w y) ?_ ?_ (r / 2 + 1) 0 5000 (-1) (by omega) (by omega) (Or.inl ⟨rfl, fun c hc => by omega⟩)
  · intro f i y hi hI
    refine Or.inr ?_
    have l := Nat.mod_lt (bn r i) (show 0 < P ^ E by omega)
    refine ⟨(if (nI (bn r i % P ^ E) ≤ vw w) ∨ (¬ (y = -1) ∧ y ≤ nI (bn r i % P ^ E)) then y else nI (bn r i % P ^ E)), ?_, ?_⟩
    · have hv : nI (bn r i % P ^ E) ≤ vw w ↔ bn r i % P ^ E < w := vw_le (by omega) (by omega)
      rcases hI with ⟨rfl, hI⟩ | ⟨u, rfl, h1, h2, ⟨c0, h3, h3'⟩, h4⟩
      · by_cases q : bn r i % P ^ E < w
        · rw [if_pos (Or.inl (hv.mpr q))]
          refine Or.inl ⟨rfl, fun c hc => ?_⟩
          by_cases e : c = i
          · rw [e]
            exact q
          · exact hI c (by omega)
        · rw [if_neg (fun z => z.elim (fun z => q (hv.mp z)) (fun z => z.1 rfl))]
          refine Or.inr ⟨_, rfl, by omega, l, ⟨i, by omega, rfl⟩, fun c hc hc2 => ?_⟩
          by_cases e : c = i
          · rw [e]
            exact Nat.le_refl _
          · have := hI c (by omega)
            omega
      · have hq : nI u ≤ nI (bn r i % P ^ E) ↔ u ≤ bn r i % P ^ E := nI_leI (by omega) (by omega)
        by_cases q : bn r i % P ^ E < w ∨ u ≤ bn r i % P ^ E
        · rw [if_pos (q.imp hv.mpr (fun z => ⟨m1_f (by omega), hq.mpr z⟩))]
          refine Or.inr ⟨u, rfl, h1, h2, ⟨c0, by omega, h3'⟩, fun c hc hc2 => ?_⟩
          by_cases e : c = i
          · rw [e]
            rw [e] at hc2
            omega
          · exact h4 c (by omega) hc2
        · rw [if_neg (fun z => q (z.imp hv.mp (fun z => hq.mp z.2)))]
          refine Or.inr ⟨_, rfl, by omega, l, ⟨i, by omega, rfl⟩, fun c hc hc2 => ?_⟩
          by_cases e : c = i
          · rw [e]
            exact Nat.le_refl _
          · have := h4 c (by omega) hc2
            omega
    · show f_X6_nextKind_L5 _ _ _ _ _ (f + 1) y (nI i) = f_X6_nextKind_L5 _ _ _ _ _ f _ (nI (i + 1))
      rw [f_X6_nextKind_L5_s, show dv_ (nI r) 2 = some (nI (r / 2)) from dv_n (d := 2) (by omega) (by omega) (by omega), ob_s, if_neg (nI_nlt (by omega) (by omega)), s.r, ob_s, qn_s, RI_n hr (by omega), nI_1]
  · intro f y hI
    refine ⟨y, ?_, ?_⟩
    · show f_X6_nextKind_L5 _ _ _ _ _ (f + 1) y (nI (r / 2 + 1)) = _
      rw [f_X6_nextKind_L5_s, show dv_ (nI r) 2 = some (nI (r / 2)) from dv_n (d := 2) (by omega) (by omega) (by omega), ob_s, if_pos (nI_lt (by omega) (by omega))]
    · have sy : ∀ c, c ≤ r → ∃ c', c' < r / 2 + 1 ∧ bn r c' = bn r c := fun c hc => by
        by_cases q : c < r / 2 + 1
        · exact ⟨c, q, rfl⟩
        · exact ⟨r - c, by omega, bn_sym r (r - c) c (by omega)⟩
      rcases hI with ⟨rfl, hI⟩ | ⟨u, rfl, h1, h2, ⟨c0, h3, h3'⟩, h4⟩
      · refine Or.inl ⟨rfl, fun c hc => ?_⟩
        obtain ⟨c', a, b⟩ := sy c hc
        rw [← b]
        exact hI c' a
      · refine Or.inr ⟨u, rfl, h1, h2, ⟨c0, by omega, h3'⟩, fun c hc hc2 => ?_⟩
        obtain ⟨c', a, b⟩ := sy c hc
        rw [← b] at hc2 ⊢
        exact h4 c' a hc2
theorem ct_p {M r u : Nat} (h : ∃ c, c ≤ r ∧ bn r c % M = u) : 0 < ct M r u := by
  obtain ⟨c, h1, h2⟩ := h
  exact cq_p M r u (r + 1) c (by omega) h2
theorem gap_ {M r w u : Nat} (h1 : w ≤ u) (h : ∀ c, c ≤ r → w ≤ bn r c % M → u ≤ bn r c % M) : ∀ v, w ≤ v → v < w + (u - w) → ct M r v = 0 := fun v a b => cq_0 M r v (r + 1) (fun c hc e => by
  have := h c (by omega) (by omega)
  omega)
theorem nk_u {M r w u : Nat} (h1 : w ≤ u) (hu : ∃ c, c ≤ r ∧ bn r c % M = u) (h : ∀ c, c ≤ r → w ≤ bn r c % M → u ≤ bn r c % M) : nk M r u = nk M r w ∧ nk M r (u + 1) = nk M r w + 1 ∧ us M r u = us M r w := by
  have e := nk_e M r w (u - w) (gap_ h1 h)
  have e2 := us_e M r w (u - w) (gap_ h1 h)
  rw [show w + (u - w) = u by omega] at e e2
  refine ⟨e, ?_, e2⟩
  show nk M r u + _ = _
  rw [e, if_pos (ct_p hu)]
theorem top_ {M r w : Nat} (hw : w ≤ M) (h : ∀ c, c ≤ r → bn r c % M < w) : nk M r M = nk M r w ∧ us M r M = us M r w := by
  have z : ∀ u, w ≤ u → u < w + (M - w) → ct M r u = 0 := fun u a b => cq_0 M r u (r + 1) (fun c hc e => by
    have := h c (by omega)
    omega)
  have e := nk_e M r w (M - w) z
  have e2 := us_e M r w (M - w) z
  rw [show w + (M - w) = M by omega] at e e2
  exact ⟨e, e2⟩
theorem full_ {M r w : Nat} (h : nk M r w = r + 1) : ∀ c, c ≤ r → bn r c % M < w := fun c hc => cl_full M r w (r + 1) (by
  have a := nk_le M r w
  have b := cl_le M r w (r + 1)
  omega) c (by omega)
theorem kn_6 (s : SET P E h g) {r : Nat} (hr : r ≤ 127) : f_X6_kindsOf (nI r) h (nI (P ^ E)) = some (nI (nk (P ^ E) r (P ^ E))) := by
  have hm := s.1.m
  unfold f_X6_kindsOf
  refine lp_ (fun f i w => f_X6_kindsOf_L4 (some (nI r + 1)) (nI r) h (nI (P ^ E)) f (vw w) (nI i)) (fun i w => nk (P ^ E) r w = i ∧ w ≤ P ^ E) (r + 1) (fun o => o = some (nI (nk (P ^ E) r (P ^ E)))) ?_ ?_ (r + 1) 0 5000 0 (by omega) (by omega) ⟨rfl, Nat.zero_le _⟩
  · intro f i w hi hI
    obtain ⟨y, e, hN⟩ := nx_ s hr hI.2
    rcases hN with ⟨rfl, hN⟩ | ⟨u, rfl, h1, h2, h3, h4⟩
    · refine Or.inl ?_
      show f_X6_kindsOf_L4 _ _ _ _ (f + 1) (vw w) (nI i) = _
      rw [f_X6_kindsOf_L4_s, if_neg (nI_nlt (by omega) (by omega)), e, ob_s, if_pos rfl, (top_ hI.2 hN).1, hI.1]
    · refine Or.inr ⟨u + 1, ⟨by rw [(nk_u h1 h3 h4).2.1, hI.1], by omega⟩, ?_⟩
      show f_X6_kindsOf_L4 _ _ _ _ (f + 1) (vw w) (nI i) = f_X6_kindsOf_L4 _ _ _ _ f (vw (u + 1)) (nI (i + 1))
      rw [f_X6_kindsOf_L4_s, if_neg (nI_nlt (by omega) (by omega)), e, ob_s, if_neg (m1_f (by omega)), vw_s, nI_1 i]
  · intro f w hI
    show f_X6_kindsOf_L4 _ _ _ _ (f + 1) (vw w) (nI (r + 1)) = _
    rw [f_X6_kindsOf_L4_s, if_pos (nI_lt (by omega) (by omega)), (top_ hI.2 (full_ hI.1)).1, hI.1, nI_1]
def uu (M r w : Nat) : Int32 := if (us M r w).2 = 0 then -1 else nI (us M r w).1
theorem uu_t {M r w : Nat} (hM : 1 < M) (h : ∀ c, c ≤ r → bn r c % M < w) : uu M r w = nI (us M r w).1 := by
  have a := us_m M r w (bn r 0 % M) (h 0 (by omega))
  have b := ct_p (M := M) (r := r) ⟨0, by omega, rfl⟩
  exact if_neg (by omega)
theorem us_6 (s : SET P E h g) {r : Nat} (hr : r ≤ 127) : f_X6_usualOf (nI r) h (nI (P ^ E)) = some (nI (us (P ^ E) r (P ^ E)).1) := by
  have hm := s.1.m
  unfold f_X6_usualOf
  refine lp_ (fun f i w => f_X6_usualOf_L10 (fun x => some x) (nI r) h (nI (P ^ E)) f (uu (P ^ E) r w) (nI (us (P ^ E) r w).2) (vw w) (nI i)) (fun i w => nk (P ^ E) r w = i ∧ w ≤ P ^ E) (r + 1) (fun o => o = some (nI (us (P ^ E) r (P ^ E)).1)) ?_ ?_ (r + 1) 0 5000 0 (by omega) (by omega) ⟨rfl, Nat.zero_le _⟩
  · intro f i w hi hI
    obtain ⟨y, e, hN⟩ := nx_ s hr hI.2
    rcases hN with ⟨rfl, hN⟩ | ⟨u, rfl, h1, h2, h3, h4⟩
    · refine Or.inl ?_
      show f_X6_usualOf_L10 _ _ _ _ (f + 1) (uu (P ^ E) r w) (nI (us (P ^ E) r w).2) (vw w) (nI i) = _
      rw [f_X6_usualOf_L10_s, if_neg (nI_nlt (by omega) (by omega)), e, ob_s, if_pos rfl, (top_ hI.2 hN).2, uu_t (by omega) hN]
    · refine Or.inr ⟨u + 1, ⟨by rw [(nk_u h1 h3 h4).2.1, hI.1], by omega⟩, ?_⟩
      show f_X6_usualOf_L10 _ _ _ _ (f + 1) (uu (P ^ E) r w) (nI (us (P ^ E) r w).2) (vw w) (nI i) = f_X6_usualOf_L10 _ _ _ _ f (uu (P ^ E) r (u + 1)) (nI (us (P ^ E) r (u + 1)).2) (vw (u + 1)) (nI (i + 1))
      have b1 := (us_b (P ^ E) r w).2
      have b2 : ct (P ^ E) r u ≤ r + 1 := cq_le _ _ _ _
      have b3 := ct_p h3
      have eu : us (P ^ E) r (u + 1) = if (us (P ^ E) r w).2 < ct (P ^ E) r u then (u, ct (P ^ E) r u) else us (P ^ E) r w := by
        show (if (us (P ^ E) r u).2 < ct (P ^ E) r u then _ else us (P ^ E) r u) = _
        rw [(nk_u h1 h3 h4).2.2]
      rw [f_X6_usualOf_L10_s, if_neg (nI_nlt (by omega) (by omega)), e, ob_s, if_neg (m1_f (by omega)), co_6 s hr, ob_s, CN_n hr (by omega) ⟨by omega, by omega⟩, vw_s, nI_1]
      unfold uu
      rw [eu]
      by_cases q : (us (P ^ E) r w).2 < ct (P ^ E) r u
      · rw [if_neg (le_f q (by omega)), if_neg (le_f q (by omega)), if_pos q, if_neg (show ¬ (u, ct (P ^ E) r u).2 = 0 from by show ¬ ct (P ^ E) r u = 0; omega)]
      · rw [if_pos (le_t (by omega) (by omega)), if_pos (le_t (by omega) (by omega)), if_neg q]
  · intro f w hI
    show f_X6_usualOf_L10 _ _ _ _ (f + 1) (uu (P ^ E) r w) (nI (us (P ^ E) r w).2) (vw w) (nI (r + 1)) = _
    rw [f_X6_usualOf_L10_s, if_pos (nI_lt (by omega) (by omega)), (top_ hI.2 (full_ hI.1)).2, uu_t (by omega) (full_ hI.1)]
end ROWS
