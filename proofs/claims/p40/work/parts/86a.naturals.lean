/-! natural numbers under the pure functions -/
theorem ob_s {α β : Type} {a : α} {k : α → Option β} : Option.bind (some a) k = k a := rfl
theorem qn_s {α β : Type} {a : α} {k : α → β} : qn_ a k = k a := rfl
theorem rd_n {α : Type} {f : Nat → α} {n j : Nat} (h : j < n) (hn : n < 2 ^ 31) : rd_ f n (nI j) = some (f j) := by
  unfold rd_
  rw [if_neg (nI_in h hn), nI_clamp (by omega)]
theorem wr_n {f : Nat → Int32} {n j : Nat} {x : Int32} (h : j < n) (hn : n < 2 ^ 31) : wr_ f n (nI j) x = some (upd f j x) := by
  unfold wr_
  rw [if_neg (nI_in h hn), nI_clamp (by omega)]
theorem wrL_n {f : Nat → Int64} {n j : Nat} {x : Int64} (h : j < n) (hn : n < 2 ^ 31) : wrL_ f n (nI j) x = some (vp_updL f j x) := by
  unfold wrL_
  rw [if_neg (nI_in h hn), nI_clamp (by omega)]
theorem dv_n {a d : Nat} (ha : a < 2 ^ 31) (h0 : 0 < d) (hd : d < 2 ^ 31) : dv_ (nI a) (nI d) = some (nI (a / d)) := by
  unfold dv_
  rw [if_neg (nI_ne0 h0 hd), pk_div ha h0 hd]
theorem md_n {a d : Nat} (ha : a < 2 ^ 31) (h0 : 0 < d) (hd : d < 2 ^ 31) : md_ (nI a) (nI d) = some (nI (a % d)) := by
  unfold md_
  rw [if_neg (nI_ne0 h0 hd), pk_rem ha h0 hd]
theorem lz_div {a d : Nat} (ha : a < 2 ^ 62) (h0 : 0 < d) (hd : d < 2 ^ 62) : lN a / lN d = lN (a / d) := by
  apply Int64.toInt_inj.mp
  have e1 : (lN a).toInt = (a : Int) := lg_ofNat_toInt (by omega)
  have e2 : (lN d).toInt = (d : Int) := lg_ofNat_toInt (by omega)
  have h3 : a / d ≤ a := Nat.div_le_self a d
  have e3 : (lN (a / d)).toInt = ((a / d : Nat) : Int) := lg_ofNat_toInt (by omega)
  rw [lg_ldiv_nonneg (by omega) (by omega), e1, e2, e3]
  first | rfl | exact (Int.natCast_ediv _ _).symm
theorem lz_rem {a d : Nat} (ha : a < 2 ^ 62) (h0 : 0 < d) (hd : d < 2 ^ 62) : lN a - lN a / lN d * lN d = lN (a % d) := by
  rw [lz_div ha h0 hd, lN_mul, lN_sub (Nat.div_mul_le_self a d)]
  exact congrArg lN (by have := Nat.div_add_mod' a d; omega)
theorem mdL_n {a d : Nat} (ha : a < 2 ^ 62) (h0 : 0 < d) (hd : d < 2 ^ 62) : mdL_ (lN a) (lN d) = some (lN (a % d)) := by
  have hne : ¬ lN d = 0 := by
    intro h
    have e : (lN d).toInt = (d : Int) := lg_ofNat_toInt (by omega)
    rw [h] at e
    have z : (0 : Int64).toInt = 0 := by decide
    omega
  unfold mdL_
  rw [if_neg hne, lz_rem ha h0 hd]
theorem zl_0 : (0 : Int32) = nI 0 := by decide
theorem zl_1 : (1 : Int32) = nI 1 := by decide
theorem zl_2 : (2 : Int32) = nI 2 := by decide
theorem zl_3 : (3 : Int32) = nI 3 := by decide
theorem zl_4 : (4 : Int32) = nI 4 := by decide
theorem zl_5 : (5 : Int32) = nI 5 := by decide
theorem zl_6 : (6 : Int32) = nI 6 := by decide
theorem zl_7 : (7 : Int32) = nI 7 := by decide
theorem zl_8 : (8 : Int32) = nI 8 := by decide
theorem zl_9 : (9 : Int32) = nI 9 := by decide
theorem zl_10 : (10 : Int32) = nI 10 := by decide
theorem zl_11 : (11 : Int32) = nI 11 := by decide
theorem zl_12 : (12 : Int32) = nI 12 := by decide
theorem zl_14 : (14 : Int32) = nI 14 := by decide
theorem zl_17 : (17 : Int32) = nI 17 := by decide
theorem zl_18 : (18 : Int32) = nI 18 := by decide
theorem zl_19 : (19 : Int32) = nI 19 := by decide
theorem zl_20 : (20 : Int32) = nI 20 := by decide
theorem zl_30 : (30 : Int32) = nI 30 := by decide
theorem zl_31 : (31 : Int32) = nI 31 := by decide
theorem zl_32 : (32 : Int32) = nI 32 := by decide
theorem zl_44 : (44 : Int32) = nI 44 := by decide
theorem zl_47 : (47 : Int32) = nI 47 := by decide
theorem zl_48 : (48 : Int32) = nI 48 := by decide
theorem zl_49 : (49 : Int32) = nI 49 := by decide
theorem zl_57 : (57 : Int32) = nI 57 := by decide
theorem zl_59 : (59 : Int32) = nI 59 := by decide
theorem zl_60 : (60 : Int32) = nI 60 := by decide
theorem zl_64 : (64 : Int32) = nI 64 := by decide
theorem zl_99 : (99 : Int32) = nI 99 := by decide
theorem zl_100 : (100 : Int32) = nI 100 := by decide
theorem zl_101 : (101 : Int32) = nI 101 := by decide
theorem zl_109 : (109 : Int32) = nI 109 := by decide
theorem zl_112 : (112 : Int32) = nI 112 := by decide
theorem zl_119 : (119 : Int32) = nI 119 := by decide
theorem zl_120 : (120 : Int32) = nI 120 := by decide
theorem zl_127 : (127 : Int32) = nI 127 := by decide
theorem zl_128 : (128 : Int32) = nI 128 := by decide
theorem zl_200 : (200 : Int32) = nI 200 := by decide
theorem zl_360 : (360 : Int32) = nI 360 := by decide
theorem zl_2400 : (2400 : Int32) = nI 2400 := by decide
theorem zl_4160 : (4160 : Int32) = nI 4160 := by decide
theorem zl_9999 : (9999 : Int32) = nI 9999 := by decide
theorem zl_16384 : (16384 : Int32) = nI 16384 := by decide
theorem zo_ (n : Nat) : Int32.ofNat n = nI n := rfl
/-! a loop under an invariant, and as a fold -/
theorem lp_ {α σ : Type} (F : Nat → Nat → σ → Option α) (I : Nat → σ → Prop) (n : Nat) (Q : Option α → Prop)
    (hs : ∀ f i s, i < n → I i s → Q (F (f + 1) i s) ∨ ∃ s', I (i + 1) s' ∧ F (f + 1) i s = F f (i + 1) s')
    (he : ∀ f s, I n s → Q (F (f + 1) n s)) : ∀ (d i f : Nat) (s : σ), i + d = n → d < f → I i s → Q (F f i s) := by
  intro d
  induction d with
  | zero =>
    intro i f s h hf hI
    obtain ⟨f', rfl⟩ : ∃ f', f = f' + 1 := ⟨f - 1, by omega⟩
    have e : i = n := by omega
    subst e
    exact he f' s hI
  | succ d ih =>
    intro i f s h hf hI
    obtain ⟨f', rfl⟩ : ∃ f', f = f' + 1 := ⟨f - 1, by omega⟩
    rcases hs f' i s (by omega) hI with h1 | ⟨s', h1, h2⟩
    · exact h1
    · rw [h2]
      exact ih (i + 1) f' s' (by omega) (by omega) h1
def fo_ {σ : Type} (g : Nat → σ → σ) : Nat → Nat → σ → σ
  | 0, _, s => s
  | d + 1, i, s => fo_ g d (i + 1) (g i s)
theorem lf_ {α σ : Type} (F : Nat → Nat → σ → Option α) (g : Nat → σ → σ) (k : σ → Option α) (n : Nat)
    (hs : ∀ f i s, i < n → F (f + 1) i s = F f (i + 1) (g i s)) (he : ∀ f s, F (f + 1) n s = k s) : ∀ (d i f : Nat) (s : σ), i + d = n → d < f → F f i s = k (fo_ g d i s) := by
  intro d
  induction d with
  | zero =>
    intro i f s h hf
    obtain ⟨f', rfl⟩ : ∃ f', f = f' + 1 := ⟨f - 1, by omega⟩
    have e : i = n := by omega
    subst e
    exact he f' s
  | succ d ih =>
    intro i f s h hf
    obtain ⟨f', rfl⟩ : ∃ f', f = f' + 1 := ⟨f - 1, by omega⟩
    rw [hs f' i s (by omega)]
    exact ih (i + 1) f' (g i s) (by omega) (by omega)
theorem lt_ {α σ τ : Type} (K : τ → Prop) (F : Nat → Nat → σ → τ → Option α) (g : Nat → σ → σ) (k : σ → τ → Option α) (n : Nat)
    (hs : ∀ f i s t, i < n → K t → ∃ t', K t' ∧ F (f + 1) i s t = F f (i + 1) (g i s) t') (he : ∀ f s t, K t → ∃ t', K t' ∧ F (f + 1) n s t = k s t') : ∀ (d i f : Nat) (s : σ) (t : τ), i + d = n → d < f → K t → ∃ t', K t' ∧ F f i s t = k (fo_ g d i s) t' := by
  intro d
  induction d with
  | zero =>
    intro i f s t h hf hK
    obtain ⟨f', rfl⟩ : ∃ f', f = f' + 1 := ⟨f - 1, by omega⟩
    have e : i = n := by omega
    subst e
    exact he f' s t hK
  | succ d ih =>
    intro i f s t h hf hK
    obtain ⟨f', rfl⟩ : ∃ f', f = f' + 1 := ⟨f - 1, by omega⟩
    obtain ⟨t1, h1, e1⟩ := hs f' i s t (by omega) hK
    rw [e1]
    exact ih (i + 1) f' (g i s) t1 (by omega) (by omega) h1
theorem fo_c {σ : Type} {g g' : Nat → σ → σ} : ∀ (d i : Nat) (s : σ), (∀ j s, i ≤ j → j < i + d → g j s = g' j s) → fo_ g d i s = fo_ g' d i s
  | 0, _, _, _ => rfl
  | d + 1, i, s, h => by
    show fo_ g d (i + 1) (g i s) = fo_ g' d (i + 1) (g' i s)
    rw [h i s (by omega) (by omega)]
    exact fo_c d (i + 1) _ (fun j s h1 h2 => h j s (by omega) (by omega))
theorem fo_i {σ : Type} {g : Nat → σ → σ} (I : Nat → σ → Prop) : ∀ (d i : Nat) (s : σ), (∀ j s, i ≤ j → j < i + d → I j s → I (j + 1) (g j s)) → I i s → I (i + d) (fo_ g d i s)
  | 0, _, _, _, h => h
  | d + 1, i, s, hs, h => by
    have := fo_i I d (i + 1) (g i s) (fun j s h1 h2 => hs j s (by omega) (by omega)) (hs i s (by omega) (by omega) h)
    show I (i + (d + 1)) (fo_ g d (i + 1) (g i s))
    rw [show i + (d + 1) = i + 1 + d by omega]
    exact this
theorem fo_r {σ τ : Type} {g : Nat → σ → σ} {g' : Nat → τ → τ} (I : Nat → σ → τ → Prop) : ∀ (d i : Nat) (s : σ) (t : τ), (∀ j s t, i ≤ j → j < i + d → I j s t → I (j + 1) (g j s) (g' j t)) → I i s t → I (i + d) (fo_ g d i s) (fo_ g' d i t)
  | 0, _, _, _, _, h => h
  | d + 1, i, s, t, hs, h => by
    have := fo_r I d (i + 1) (g i s) (g' i t) (fun j s t h1 h2 => hs j s t (by omega) (by omega)) (hs i s t (by omega) (by omega) h)
    show I (i + (d + 1)) (fo_ g d (i + 1) (g i s)) (fo_ g' d (i + 1) (g' i t))
    rw [show i + (d + 1) = i + 1 + d by omega]
    exact this
/-! the numbers of the triangle -/
def bn : Nat → Nat → Nat
  | 0, 0 => 1
  | 0, _ + 1 => 0
  | _ + 1, 0 => 1
  | n + 1, k + 1 => bn n k + bn n (k + 1)
theorem bn_0 (n : Nat) : bn n 0 = 1 := by cases n <;> rfl
theorem bn_s (n k : Nat) : bn (n + 1) (k + 1) = bn n k + bn n (k + 1) := rfl
theorem bn_gt : ∀ n k : Nat, n < k → bn n k = 0
  | 0, 0, h => by omega
  | 0, _ + 1, _ => rfl
  | _ + 1, 0, h => by omega
  | n + 1, k + 1, h => by rw [bn_s, bn_gt n k (by omega), bn_gt n (k + 1) (by omega)]
theorem bn_n : ∀ n : Nat, bn n n = 1
  | 0 => rfl
  | n + 1 => by rw [bn_s, bn_n n, bn_gt n (n + 1) (by omega)]
theorem bn_sym : ∀ n a b : Nat, a + b = n → bn n a = bn n b
  | 0, a, b, h => by
    have e1 : a = 0 := by omega
    have e2 : b = 0 := by omega
    rw [e1, e2]
  | n + 1, 0, b, h => by
    have e : b = n + 1 := by omega
    rw [e, bn_0, bn_n]
  | n + 1, a + 1, 0, h => by
    have e : a = n := by omega
    rw [e, bn_0, bn_n]
  | n + 1, a + 1, b + 1, h => by
    rw [bn_s, bn_s, bn_sym n a (b + 1) (by omega), bn_sym n (a + 1) b (by omega)]
    omega
/-! the class's table -/
theorem hx_ : ∀ r < 128, (r + 1) * (r + 1) / 4 + r / 2 + 1 = (r + 2) * (r + 2) / 4 ∧ (r + 1) * (r + 1) / 4 + r / 2 < 4160 := by decide +kernel
theorem hx_m {a b : Nat} (h : a ≤ b) : a * a / 4 ≤ b * b / 4 := Nat.div_le_div_right (Nat.mul_le_mul h h)
def HT (h : Nat → Int32) : Prop := ∀ r c, r ≤ 127 → c ≤ r / 2 → h ((r + 1) * (r + 1) / 4 + c) = nI (bn r c % 1944810000)
def HI (r c : Nat) (h : Nat → Int32) : Prop := ∀ r' c', r' ≤ 127 → c' ≤ r' / 2 → (r' < r ∨ (r' = r ∧ c' < c)) → h ((r' + 1) * (r' + 1) / 4 + c') = nI (bn r' c' % 1944810000)
theorem rd_ok {α : Type} {f : Nat → α} {n : Nat} {i : Int32} (h0 : ¬ i < 0) (h1 : ¬ nI n ≤ i) (hn : n < 2 ^ 31) : ∃ v, rd_ f n i = some v := by
  obtain ⟨j, hj, rfl⟩ := nI_of h0
  rw [nI_leI hn hj] at h1
  exact ⟨_, rd_n (by omega) hn⟩
theorem cl_some (a b : Int32) (h : Nat → Int32) : ∃ u, f_X5_cell a b h = some u := by
  unfold f_X5_cell
  by_cases q : a < 0 ∨ 127 < a ∨ b < 0 ∨ ¬ b ≤ a
  · rw [if_pos q]
    exact ⟨_, rfl⟩
  · rw [if_neg q]
    unfold dv_
    rw [if_neg (show ¬ (2 : Int32) = 0 by decide), ob_s, if_neg (show ¬ (4 : Int32) = 0 by decide), ob_s]
    generalize (a + 1) * (a + 1) / 4 + (if a / 2 < b then a - b else b) = x
    by_cases q : ¬ x < 0 ∧ ¬ Int32.ofNat 4160 ≤ x
    · rw [if_pos q]
      obtain ⟨v, hv⟩ := rd_ok (f := h) (n := 4160) q.1 q.2 (by decide)
      rw [hv]
      exact ⟨_, rfl⟩
    · rw [if_neg q]
      exact ⟨_, rfl⟩
theorem cl_n {r c : Nat} {h : Nat → Int32} (hr : r ≤ 127) (hc : c ≤ r) (hh : ∀ c', c' ≤ r / 2 → h ((r + 1) * (r + 1) / 4 + c') = nI (bn r c' % 1944810000)) : f_X5_cell (nI r) (nI c) h = some (nI (bn r c % 1944810000)) := by
  have q := (hx_ r (by omega)).2
  have hsq : (r + 1) * (r + 1) < 2 ^ 31 := by
    have : (r + 1) * (r + 1) ≤ 128 * 128 := Nat.mul_le_mul (by omega) (by omega)
    omega
  unfold f_X5_cell
  simp only [zl_0, zl_127, zl_2, zl_1, zl_4]
  rw [if_neg (by rw [nI_ltI (by omega) (by omega), nI_ltI (by omega) (by omega), nI_ltI (by omega) (by omega), nI_leI (by omega) (by omega)]; omega)]
  rw [dv_n (by omega) (by omega) (by omega), ob_s, nI_add, pk_mul, dv_n hsq (by omega) (by omega), ob_s]
  have key : ∀ m, m ≤ r / 2 → bn r m = bn r c → (if ¬ (nI ((r + 1) * (r + 1) / 4) + nI m < nI 0) ∧ ¬ (Int32.ofNat 4160 ≤ nI ((r + 1) * (r + 1) / 4) + nI m) then Option.bind (rd_ h 4160 (nI ((r + 1) * (r + 1) / 4) + nI m)) (fun g_10 => some g_10) else some (nI 0)) = some (nI (bn r c % 1944810000)) := by
    intro m hm hb
    rw [nI_add, zo_, if_pos ⟨by rw [nI_ltI (by omega) (by omega)]; omega, by rw [nI_leI (by omega) (by omega)]; omega⟩, rd_n (by omega) (by omega), ob_s, hh m hm, hb]
  by_cases h2 : r / 2 < c
  · rw [if_pos ((nI_ltI (by omega) (by omega)).mpr h2), pk_sub hc]
    exact key (r - c) (by omega) (bn_sym r (r - c) c (by omega))
  · rw [if_neg (fun z => h2 ((nI_ltI (by omega) (by omega)).mp z))]
    exact key c (by omega) rfl
theorem cl_0 {a b : Int32} {h : Nat → Int32} (q : a < 0 ∨ 127 < a ∨ b < 0 ∨ ¬ b ≤ a) : f_X5_cell a b h = some 0 := by
  unfold f_X5_cell
  rw [if_pos q]
theorem in_23 (k : (Nat → Int32) → Option (Nat → Int32)) {r : Nat} (hr : r ≤ 127) (h : Nat → Int32) (hI : HI r 0 h) : ∃ h', HI (r + 1) 0 h' ∧ f_X5_init_L23 k (nI r) 5000 0 h = k h' := by
  refine lp_ (fun f i s => f_X5_init_L23 k (nI r) f (nI i) s) (HI r) (r / 2 + 1) (fun o => ∃ h', HI (r + 1) 0 h' ∧ o = k h') ?_ ?_ (r / 2 + 1) 0 5000 h (by omega) (by omega) hI
  · intro f i s hi hI
    refine Or.inr ?_
    have q := hx_ r (by omega)
    have hsq : (r + 1) * (r + 1) < 2 ^ 31 := by
      have : (r + 1) * (r + 1) ≤ 128 * 128 := Nat.mul_le_mul (by omega) (by omega)
      omega
    have hup : ∀ x, x = nI (bn r i % 1944810000) → HI r (i + 1) (upd s ((r + 1) * (r + 1) / 4 + i) x) := by
      intro x hx r' c' h1 h2 h3
      by_cases e : r' = r ∧ c' = i
      · obtain ⟨e1, e2⟩ := e
        subst e1 e2
        rw [pk_us, hx]
      · rw [pk_un ?_]
        · exact hI r' c' h1 h2 (by omega)
        · rcases h3 with h3 | ⟨h3, h4⟩
          · have m := hx_m (show r' + 2 ≤ r + 1 by omega)
            have q' := (hx_ r' (by omega)).1
            omega
          · subst h3
            omega
    show ∃ s', HI r (i + 1) s' ∧ f_X5_init_L23 k (nI r) (f + 1) (nI i) s = f_X5_init_L23 k (nI r) f (nI (i + 1)) s'
    rw [f_X5_init_L23_s]
    rw [show dv_ (nI r) 2 = some (nI (r / 2)) from dv_n (d := 2) (by omega) (by omega) (by omega), ob_s, if_neg (by rw [nI_ltI (by omega) (by omega)]; omega)]
    by_cases h0 : i = 0
    · subst h0
      obtain ⟨u1, e1⟩ := cl_some (nI r - 1) (nI 0 - 1) s
      obtain ⟨u2, e2⟩ := cl_some (nI r - 1) (nI 0) s
      rw [e1, ob_s, e2, ob_s]
      simp only [zl_1, zl_4, zl_0, nI_add, pk_mul]
      rw [dv_n hsq (by omega) (by omega), ob_s, zo_, nI_add, if_pos ⟨by rw [nI_ltI (by omega) (by omega)]; omega, by rw [nI_leI (by omega) (by omega)]; omega⟩, if_pos trivial, wr_n (by omega) (by omega), ob_s]
      exact ⟨_, hup _ (by rw [bn_0]), rfl⟩
    · obtain ⟨c, rfl⟩ : ∃ c, i = c + 1 := ⟨i - 1, by omega⟩
      obtain ⟨R, rfl⟩ : ∃ R, r = R + 1 := ⟨r - 1, by omega⟩
      have hrow : ∀ c', c' ≤ R / 2 → s ((R + 1) * (R + 1) / 4 + c') = nI (bn R c' % 1944810000) := fun c' hc' => hI R c' (by omega) hc' (Or.inl (by omega))
      rw [nI_pred, nI_pred, cl_n (by omega) (by omega) hrow, ob_s, cl_n (by omega) (by omega) hrow, ob_s]
      have l1 := Nat.mod_lt (bn R c) (show 0 < 1944810000 by omega)
      have l2 := Nat.mod_lt (bn R (c + 1)) (show 0 < 1944810000 by omega)
      rw [nI_l (by omega), nI_l (by omega), lN_add, show (1944810000 : Int64) = lN 1944810000 from rfl, mdL_n (by omega) (by omega) (by omega)]
      simp only [zl_1, zl_4, zl_0, nI_add, pk_mul, ob_s]
      rw [dv_n hsq (by omega) (by omega), ob_s, zo_, nI_add, if_pos ⟨by rw [nI_ltI (by omega) (by omega)]; omega, by rw [nI_leI (by omega) (by omega)]; omega⟩, if_neg (by rw [nI_eq (by omega) (by omega)]; omega), wr_n (by omega) (by omega), ob_s]
      exact ⟨_, hup _ (by rw [lN_i, bn_s, ← Nat.add_mod]), rfl⟩
  · intro f s hI
    refine ⟨s, ?_, ?_⟩
    · intro r' c' h1 h2 h3
      exact hI r' c' h1 h2 (by omega)
    · show f_X5_init_L23 k (nI r) (f + 1) (nI (r / 2 + 1)) s = k s
      rw [f_X5_init_L23_s, show dv_ (nI r) 2 = some (nI (r / 2)) from dv_n (d := 2) (by omega) (by omega) (by omega), ob_s, if_pos (by rw [nI_ltI (by omega) (by omega)]; omega)]
theorem in_5 : ∃ h, HT h ∧ f_X5_init = some h := by
  unfold f_X5_init
  have := lp_ (fun f i s => f_X5_init_L15 (fun x => some x) f (nI i) s) (fun i s => HI i 0 s) 128 (fun o => ∃ h, HT h ∧ o = some h) ?_ ?_ 128 0 5000 (fun _ => 0) (by omega) (by omega) ?_
  · exact this
  · intro f i s hi hI
    obtain ⟨h', a, b⟩ := in_23 (fun x => f_X5_init_L15 (fun x => some x) f (nI i + 1) x) (r := i) (by omega) s hI
    refine Or.inr ⟨h', a, ?_⟩
    show f_X5_init_L15 (fun x => some x) (f + 1) (nI i) s = _
    rw [f_X5_init_L15_s, zl_127, if_neg (by rw [nI_ltI (by omega) (by omega)]; omega), b, nI_1]
  · intro f s hI
    refine ⟨s, fun r c h1 h2 => hI r c h1 h2 (Or.inl (by omega)), ?_⟩
    show f_X5_init_L15 (fun x => some x) (f + 1) (nI 128) s = _
    rw [f_X5_init_L15_s, zl_127, if_pos (by rw [nI_ltI (by omega) (by omega)]; omega)]
  · intro r c _ _ h
    omega
