/-! rows, the model's side; kinds in their order -/
section ROWT
variable {P E : Nat} {h g : Nat → Int32} {t : TR}
def KD (M r i : Nat) (y : Int32) : Prop := (∃ u, u < M ∧ 0 < ct M r u ∧ nk M r u = i ∧ y = nI u) ∨ (y = -5 ∧ nk M r M ≤ i)
theorem nk_lt {M r u v : Nat} (hu : 0 < ct M r u) (h : u < v) : nk M r u < nk M r v := by
  have a := nk_m M r (u + 1) (v - (u + 1))
  rw [show u + 1 + (v - (u + 1)) = v by omega] at a
  have b : nk M r (u + 1) = nk M r u + (if 0 < ct M r u then 1 else 0) := rfl
  rw [if_pos hu] at b
  omega
theorem KD.u {M r i : Nat} {x y : Int32} (a : KD M r i x) (b : KD M r i y) : x = y := by
  rcases a with ⟨u, u1, u2, u3, u4⟩ | ⟨a1, a2⟩
  · rcases b with ⟨v, v1, v2, v3, v4⟩ | ⟨b1, b2⟩
    · have e : u = v := by
        rcases Nat.lt_trichotomy u v with q | q | q
        · have := nk_lt u2 q
          omega
        · exact q
        · have := nk_lt v2 q
          omega
      rw [u4, v4, e]
    · have := nk_lt u2 u1
      omega
  · rcases b with ⟨v, v1, v2, v3, v4⟩ | ⟨b1, b2⟩
    · have := nk_lt v2 v1
      omega
    · rw [a1, b1]
theorem kd_6 (s : SET P E h g) {r i : Nat} (hr : r ≤ 127) (hi : i < 2 ^ 31) : ∃ y, f_X6_kind_L18 (fun x => some x) (nI r) (nI i) h (nI (P ^ E)) 5000 (-1) 0 = some y ∧ KD (P ^ E) r i y := by
  have hm := s.1.m
  have ends : ∀ n f w, (n = i + 1 ∨ n = r + 2) → n ≤ i + 1 → n ≤ r + 2 → nk (P ^ E) r w = n → (0 < n → ∃ u, w = u + 1 ∧ 0 < ct (P ^ E) r u ∧ nk (P ^ E) r u + 1 = n ∧ u < P ^ E) → ∃ y, f_X6_kind_L18 (fun x => some x) (nI r) (nI i) h (nI (P ^ E)) (f + 1) (vw w) (nI n) = some y ∧ KD (P ^ E) r i y := by
    intro n f w h1 h2 h3 h4 h5
    have a := nk_le (P ^ E) r w
    have b := cl_le (P ^ E) r w (r + 1)
    obtain ⟨u, rfl, u1, u2, u3⟩ := h5 (by omega)
    refine ⟨nI u, ?_, Or.inl ⟨u, u3, u1, by omega, rfl⟩⟩
    rw [f_X6_kind_L18_s, if_neg (fun z => z.1 (nI_lt (by omega) (by omega))), vw_s]
  refine lp_ (fun f j w => f_X6_kind_L18 (fun x => some x) (nI r) (nI i) h (nI (P ^ E)) f (vw w) (nI j)) (fun j w => nk (P ^ E) r w = j ∧ w ≤ P ^ E ∧ (0 < j → ∃ u, w = u + 1 ∧ 0 < ct (P ^ E) r u ∧ nk (P ^ E) r u + 1 = j ∧ u < P ^ E)) (min (i + 1) (r + 2)) (fun o => ∃ y, o = some y ∧ KD (P ^ E) r i y) ?_ ?_ (min (i + 1) (r + 2)) 0 5000 0 (by omega) (by omega) ⟨rfl, Nat.zero_le _, fun z => by omega⟩
  · intro f j w hj hI
    obtain ⟨y, e, hN⟩ := nx_ s hr hI.2.1
    have c : ¬ nI i < nI j ∧ ¬ nI r + 1 < nI j := ⟨nI_nlt (by omega) (by omega), by rw [nI_1]; exact nI_nlt (by omega) (by omega)⟩
    rcases hN with ⟨rfl, hN⟩ | ⟨u, rfl, h1, h2, h3, h4⟩
    · refine Or.inl ⟨-5, ?_, Or.inr ⟨rfl, by rw [(top_ hI.2.1 hN).1, hI.1]; omega⟩⟩
      show f_X6_kind_L18 _ _ _ _ _ (f + 1) (vw w) (nI j) = _
      rw [f_X6_kind_L18_s, if_pos c, e, ob_s, if_pos rfl]
    · refine Or.inr ⟨u + 1, ⟨by rw [(nk_u h1 h3 h4).2.1, hI.1], by omega, fun _ => ⟨u, rfl, ct_p h3, by rw [(nk_u h1 h3 h4).1, hI.1], h2⟩⟩, ?_⟩
      show f_X6_kind_L18 _ _ _ _ _ (f + 1) (vw w) (nI j) = f_X6_kind_L18 _ _ _ _ _ f (vw (u + 1)) (nI (j + 1))
      rw [f_X6_kind_L18_s, if_pos c, e, ob_s, if_neg (m1_f (by omega)), vw_s, nI_1 j]
  · intro f w hI
    exact ends _ f w (by omega) (by omega) (by omega) hI.1 hI.2.2
theorem kd_7 (s : SET P E h g) (hO : OK t) {r i : Nat} (hr : r ≤ 127) (hi : i < 2 ^ 31) : ∃ y t', OK t' ∧ f_X7_kind_L18 (fun x y => some (-5, x, y)) (nI r) g 5000 (nI i) 0 t.1 t.2 = some (y, t'.1, t'.2) ∧ KD (P ^ E) r i y := by
  have hm := s.1.m
  refine lp_ (σ := TR) (fun f v t => f_X7_kind_L18 (fun x y => some (-5, x, y)) (nI r) g f (nI (i - nk (P ^ E) r v)) (nI v) t.1 t.2) (fun v t => OK t ∧ nk (P ^ E) r v ≤ i) (P ^ E) (fun o => ∃ y t', OK t' ∧ o = some (y, t'.1, t'.2) ∧ KD (P ^ E) r i y) ?_ ?_ (P ^ E) 0 5000 t (by omega) (by omega) ⟨hO, Nat.zero_le _⟩
  · intro f v t hv hI
    obtain ⟨t', a1, b1⟩ := co_7 s hI.1 hr (nI v)
    have hc : ct (P ^ E) r v ≤ r + 1 := cq_le _ _ _ _
    have st : f_X7_kind_L18 (fun x y => some (-5, x, y)) (nI r) g (f + 1) (nI (i - nk (P ^ E) r v)) (nI v) t.1 t.2 = if nI (ct (P ^ E) r v) ≤ nI 0 then f_X7_kind_L18 (fun x y => some (-5, x, y)) (nI r) g f (nI (i - nk (P ^ E) r v)) (nI (v + 1)) t'.1 t'.2 else if nI (i - nk (P ^ E) r v) = nI 0 then some (nI v, t'.1, t'.2) else f_X7_kind_L18 (fun x y => some (-5, x, y)) (nI r) g f (nI (i - nk (P ^ E) r v) + -1) (nI (v + 1)) t'.1 t'.2 := by
      rw [f_X7_kind_L18_s, mo_7 s.1 s.2.1, ob_s, if_neg (le_f (by omega) (by omega)), b1, ob_s, CN_n hr (by omega) ⟨by omega, by omega⟩, nI_1]
      rfl
    by_cases q : ct (P ^ E) r v = 0
    · refine Or.inr ⟨t', ⟨a1, ?_⟩, ?_⟩
      · show nk (P ^ E) r v + (if 0 < ct (P ^ E) r v then 1 else 0) ≤ i
        rw [if_neg (by omega)]
        exact hI.2
      · show f_X7_kind_L18 _ _ _ (f + 1) _ _ _ _ = f_X7_kind_L18 _ _ _ f (nI (i - (nk (P ^ E) r v + (if 0 < ct (P ^ E) r v then 1 else 0)))) _ _ _
        rw [st, if_pos (le_t (by omega) (by omega)), if_neg (show ¬ 0 < ct (P ^ E) r v by omega)]
        rfl
    · by_cases q2 : i - nk (P ^ E) r v = 0
      · refine Or.inl ⟨nI v, t', a1, ?_, Or.inl ⟨v, hv, by omega, by have := hI.2; omega, rfl⟩⟩
        show f_X7_kind_L18 _ _ _ (f + 1) _ _ _ _ = _
        rw [st, if_neg (le_f (by omega) (by omega)), if_pos (by rw [q2])]
      · refine Or.inr ⟨t', ⟨a1, ?_⟩, ?_⟩
        · show nk (P ^ E) r v + (if 0 < ct (P ^ E) r v then 1 else 0) ≤ i
          rw [if_pos (by omega)]
          omega
        · show f_X7_kind_L18 _ _ _ (f + 1) _ _ _ _ = f_X7_kind_L18 _ _ _ f (nI (i - (nk (P ^ E) r v + (if 0 < ct (P ^ E) r v then 1 else 0)))) _ _ _
          rw [st, if_neg (le_f (by omega) (by omega)), if_neg (eq_f q2 (by omega) (by omega)), if_pos (show 0 < ct (P ^ E) r v by omega)]
          rw [show i - nk (P ^ E) r v = i - (nk (P ^ E) r v + 1) + 1 by omega, pk_m1]
  · intro f t hI
    refine ⟨-5, t, hI.1, ?_, Or.inr ⟨rfl, hI.2⟩⟩
    show f_X7_kind_L18 _ _ _ (f + 1) _ (nI (P ^ E)) t.1 t.2 = _
    rw [f_X7_kind_L18_s, mo_7 s.1 s.2.1, ob_s, if_pos (le_t (by omega) (by omega))]
/-- the loop over the kinds, in the model -/
theorem rk_7 (s : SET P E h g) (hO : OK t) {r w : Nat} (hr : r ≤ 127) (hw : w < 2) (k : Int32 → Int32 → (Nat → Int32) → Int32 → Option (Int32 × (Nat → Int32) × Int32)) : ∃ t', OK t' ∧ f_X7_row_L46 k (nI r) (nI w) g 5000 0 0 0 0 t.1 t.2 = k (nI (nk (P ^ E) r (P ^ E))) (nI (us (P ^ E) r (P ^ E)).1) t'.1 t'.2 := by
  have hm := s.1.m
  refine ldt_ (τ := TR) OK (fun f v t => f_X7_row_L46 k (nI r) (nI w) g f (nI (nk (P ^ E) r v)) (nI (us (P ^ E) r v).1) (nI (us (P ^ E) r v).2) (nI v) t.1 t.2) (P ^ E) (fun o => ∃ t', OK t' ∧ o = k (nI (nk (P ^ E) r (P ^ E))) (nI (us (P ^ E) r (P ^ E)).1) t'.1 t'.2) ?_ ?_ (P ^ E) 0 5000 t (by omega) (by omega) hO
  · intro f v t hv hO
    obtain ⟨t', a1, b1⟩ := co_7 s hO hr (nI v)
    have hc : ct (P ^ E) r v ≤ r + 1 := cq_le _ _ _ _
    have hb := us_b (P ^ E) r v
    refine ⟨t', a1, ?_⟩
    show f_X7_row_L46 _ _ _ _ (f + 1) (nI (nk (P ^ E) r v)) (nI (us (P ^ E) r v).1) (nI (us (P ^ E) r v).2) (nI v) t.1 t.2 = f_X7_row_L46 _ _ _ _ f (nI (nk (P ^ E) r v + (if 0 < ct (P ^ E) r v then 1 else 0))) (nI (if (us (P ^ E) r v).2 < ct (P ^ E) r v then (v, ct (P ^ E) r v) else us (P ^ E) r v).1) (nI (if (us (P ^ E) r v).2 < ct (P ^ E) r v then (v, ct (P ^ E) r v) else us (P ^ E) r v).2) (nI (v + 1)) t'.1 t'.2
    rw [f_X7_row_L46_s, mo_7 s.1 s.2.1, ob_s, zl_2, if_pos ⟨le_f (by omega) (by omega), le_f (by omega) (by omega)⟩, b1, ob_s, CN_n hr (by omega) ⟨by omega, by omega⟩, nI_1]
    have e1 : (if ¬ nI (ct (P ^ E) r v) ≤ 0 then (1 : Int32) else 0) = nI (if 0 < ct (P ^ E) r v then 1 else 0) := by
      rw [zl_0]
      by_cases q : 0 < ct (P ^ E) r v
      · rw [if_pos q, if_pos (le_f q (by omega))]
        rfl
      · rw [if_neg q, if_neg (fun z => z (le_t (by omega) (by omega)))]
    rw [e1, nI_add]
    by_cases q : (us (P ^ E) r v).2 < ct (P ^ E) r v
    · rw [if_neg (le_f q (by omega)), if_pos (nI_lt q (by omega)), if_pos q]
    · rw [if_pos (le_t (by omega) (by omega)), if_neg (nI_nlt (by omega) (by omega)), if_neg q]
  · intro f t hO
    refine ⟨t, hO, ?_⟩
    show f_X7_row_L46 _ _ _ _ (f + 1) _ _ _ (nI (P ^ E)) t.1 t.2 = _
    rw [f_X7_row_L46_s, mo_7 s.1 s.2.1, ob_s, if_neg (fun z => z.1 (le_t (by omega) (by omega)))]
/-! rows without noughts -/
def uf (M : Nat) : Nat → Nat
  | 0 => 0
  | i + 1 => uf M i + (if ct M i 0 = 0 then 1 else 0)
def ul (M : Nat) : Nat → Nat
  | 0 => 0
  | i + 1 => if ct M i 0 = 0 then i else ul M i
def uh (M : Nat) : Nat → Nat
  | 0 => 0
  | i + 1 => if ct M i 0 ≤ ct M (uh M i) 0 then uh M i else i
theorem uh_le (M : Nat) : ∀ i, uh M i ≤ i - 1
  | 0 => Nat.le_refl _
  | i + 1 => by
    have := uh_le M i
    show (if ct M i 0 ≤ ct M (uh M i) 0 then uh M i else i) ≤ i
    split <;> omega
theorem c0_ (s : SET P E h g) {r : Nat} (hr : r ≤ 127) : CN (P ^ E) r 0 = nI (ct (P ^ E) r 0) := by
  have hm := s.1.m
  rw [zl_0]
  exact CN_n hr (by omega) ⟨by omega, by omega⟩
theorem ct_b (M r v : Nat) : ct M r v ≤ r + 1 := cq_le _ _ _ _
theorem fr_6 (s : SET P E h g) {r : Nat} (hr : r ≤ 127) : f_X6_fullRows (nI r) h (nI (P ^ E)) = some (nI (uf (P ^ E) (r + 1))) := by
  unfold f_X6_fullRows
  refine ld_ (fun f i => f_X6_fullRows_L4 (fun x => some x) (nI r) h (nI (P ^ E)) f (nI (uf (P ^ E) i)) (nI i)) (r + 1) _ ?_ ?_ (r + 1) 0 5000 (by omega) (by omega)
  · intro f i hi
    show f_X6_fullRows_L4 _ _ _ _ (f + 1) (nI (uf (P ^ E) i)) (nI i) = f_X6_fullRows_L4 _ _ _ _ f (nI (uf (P ^ E) i + (if ct (P ^ E) i 0 = 0 then 1 else 0))) (nI (i + 1))
    have b := ct_b (P ^ E) i 0
    rw [f_X6_fullRows_L4_s, if_neg (nI_nlt (by omega) (by omega)), co_6 s (by omega), ob_s, c0_ s (by omega), nI_1 i, ite_not, zl_0]
    by_cases q : ct (P ^ E) i 0 = 0
    · rw [if_pos (by rw [q]), if_pos q, nI_1]
    · rw [if_neg (eq_f q (by omega) (by omega)), if_neg q]
      rfl
  · intro f
    show f_X6_fullRows_L4 _ _ _ _ (f + 1) _ (nI (r + 1)) = _
    rw [f_X6_fullRows_L4_s, if_pos (nI_lt (by omega) (by omega))]
theorem lr_6 (s : SET P E h g) : ∀ r f, r ≤ 127 → r < f → f_X6_lastFullRow_L2 (some 0) h (nI (P ^ E)) f (nI r) = some (nI (ul (P ^ E) (r + 1))) := by
  intro r
  induction r with
  | zero =>
    intro f hr hf
    obtain ⟨f, rfl⟩ : ∃ g, f = g + 1 := ⟨f - 1, by omega⟩
    rw [f_X6_lastFullRow_L2_s, zl_0, if_pos (le_t (by omega) (by omega))]
    show some (nI 0) = some (nI (if ct (P ^ E) 0 0 = 0 then 0 else 0))
    split <;> rfl
  | succ r ih =>
    intro f hr hf
    obtain ⟨f, rfl⟩ : ∃ g, f = g + 1 := ⟨f - 1, by omega⟩
    have b := ct_b (P ^ E) (r + 1) 0
    rw [f_X6_lastFullRow_L2_s, co_6 s hr, ob_s, c0_ s hr, zl_0, if_neg (le_f (by omega) (by omega)), pk_m1]
    show _ = some (nI (if ct (P ^ E) (r + 1) 0 = 0 then r + 1 else ul (P ^ E) (r + 1)))
    by_cases q : ct (P ^ E) (r + 1) 0 = 0
    · rw [if_pos (by rw [q]), if_pos q]
    · rw [if_neg (eq_f q (by omega) (by omega)), if_neg q]
      exact ih f (by omega) (by omega)
theorem hv_6 (s : SET P E h g) {r : Nat} (hr : r ≤ 127) : f_X6_heaviestRow (nI r) h (nI (P ^ E)) = some (nI (uh (P ^ E) (r + 1))) := by
  have hm := s.1.m
  unfold f_X6_heaviestRow
  have z : ct (P ^ E) 0 0 = 0 := cq_0 _ _ _ _ (fun c hc e => by
    have e1 : c = 0 := by omega
    rw [e1, bn_0, Nat.mod_eq_of_lt (by omega)] at e
    omega)
  have F := ld_ (fun f i => f_X6_heaviestRow_L7 (fun x => some x) (nI r) h (nI (P ^ E)) f (nI (uh (P ^ E) i)) (nI (ct (P ^ E) (uh (P ^ E) i) 0)) (nI i)) (r + 1) (some (nI (uh (P ^ E) (r + 1)))) ?_ ?_ (r + 1) 0 5000 (by omega) (by omega)
  · have F' : f_X6_heaviestRow_L7 (fun x => some x) (nI r) h (nI (P ^ E)) 5000 (nI 0) (nI (ct (P ^ E) 0 0)) (nI 0) = some (nI (uh (P ^ E) (r + 1))) := F
    rw [z] at F'
    exact F'
  · intro f i hi
    show f_X6_heaviestRow_L7 _ _ _ _ (f + 1) (nI (uh (P ^ E) i)) (nI (ct (P ^ E) (uh (P ^ E) i) 0)) (nI i) = f_X6_heaviestRow_L7 _ _ _ _ f (nI (if ct (P ^ E) i 0 ≤ ct (P ^ E) (uh (P ^ E) i) 0 then uh (P ^ E) i else i)) (nI (ct (P ^ E) (if ct (P ^ E) i 0 ≤ ct (P ^ E) (uh (P ^ E) i) 0 then uh (P ^ E) i else i) 0)) (nI (i + 1))
    have b := ct_b (P ^ E) i 0
    have b2 := ct_b (P ^ E) (uh (P ^ E) i) 0
    have b3 := uh_le (P ^ E) i
    rw [f_X6_heaviestRow_L7_s, if_neg (nI_nlt (by omega) (by omega)), co_6 s (by omega), ob_s, c0_ s (by omega), nI_1 i]
    by_cases q : ct (P ^ E) i 0 ≤ ct (P ^ E) (uh (P ^ E) i) 0
    · rw [if_pos (le_t q (by omega)), if_pos (le_t q (by omega)), if_pos q]
    · rw [if_neg (le_f (by omega) (by omega)), if_neg (le_f (by omega) (by omega)), if_neg q]
  · intro f
    show f_X6_heaviestRow_L7 _ _ _ _ (f + 1) _ _ (nI (r + 1)) = _
    rw [f_X6_heaviestRow_L7_s, if_pos (nI_lt (by omega) (by omega))]
theorem up_7 (s : SET P E h g) (hO : OK t) {r : Nat} (hr : r ≤ 127) (k : Int32 → Int32 → Int32 → (Nat → Int32) → Int32 → Option (Int32 × (Nat → Int32) × Int32)) : ∃ t', OK t' ∧ f_X7_upTo_L32 k (nI r) g 5000 0 0 0 0 t.1 t.2 = k (nI (uf (P ^ E) (r + 1))) (nI (ul (P ^ E) (r + 1))) (nI (uh (P ^ E) (r + 1))) t'.1 t'.2 := by
  refine ldt_ (τ := TR) OK (fun f i t => f_X7_upTo_L32 k (nI r) g f (nI (uf (P ^ E) i)) (nI (ul (P ^ E) i)) (nI (uh (P ^ E) i)) (nI i) t.1 t.2) (r + 1) (fun o => ∃ t', OK t' ∧ o = k (nI (uf (P ^ E) (r + 1))) (nI (ul (P ^ E) (r + 1))) (nI (uh (P ^ E) (r + 1))) t'.1 t'.2) ?_ ?_ (r + 1) 0 5000 t (by omega) (by omega) hO
  · intro f i t hi hO
    have b := ct_b (P ^ E) i 0
    have b2 := ct_b (P ^ E) (uh (P ^ E) i) 0
    have b3 := uh_le (P ^ E) i
    obtain ⟨t1, a1, b1⟩ := co_7 s hO (r := i) (by omega) 0
    obtain ⟨t2, a2, b2'⟩ := co_7 s a1 (r := uh (P ^ E) i) (by omega) 0
    refine ⟨t2, a2, ?_⟩
    show f_X7_upTo_L32 _ _ _ (f + 1) (nI (uf (P ^ E) i)) (nI (ul (P ^ E) i)) (nI (uh (P ^ E) i)) (nI i) t.1 t.2 = f_X7_upTo_L32 _ _ _ f (nI (uf (P ^ E) i + (if ct (P ^ E) i 0 = 0 then 1 else 0))) (nI (if ct (P ^ E) i 0 = 0 then i else ul (P ^ E) i)) (nI (if ct (P ^ E) i 0 ≤ ct (P ^ E) (uh (P ^ E) i) 0 then uh (P ^ E) i else i)) (nI (i + 1)) t2.1 t2.2
    rw [f_X7_upTo_L32_s, if_neg (nI_nlt (by omega) (by omega)), b1, ob_s, b2', ob_s, c0_ s (by omega), c0_ s (by omega), nI_1 i, ite_not, ad_if, zl_0]
    have e2 : (if nI (ct (P ^ E) i 0) ≤ nI (ct (P ^ E) (uh (P ^ E) i) 0) then nI (uh (P ^ E) i) else nI i) = nI (if ct (P ^ E) i 0 ≤ ct (P ^ E) (uh (P ^ E) i) 0 then uh (P ^ E) i else i) := by
      by_cases q : ct (P ^ E) i 0 ≤ ct (P ^ E) (uh (P ^ E) i) 0
      · rw [if_pos (le_t q (by omega)), if_pos q]
      · rw [if_neg (le_f (by omega) (by omega)), if_neg q]
    rw [e2]
    by_cases q : ct (P ^ E) i 0 = 0
    · rw [if_pos (by rw [q]), if_pos (by rw [q]), if_pos q, if_pos q, nI_1]
    · rw [if_neg (eq_f q (by omega) (by omega)), if_neg (eq_f q (by omega) (by omega)), if_neg q, if_neg q]
      rfl
  · intro f t hO
    refine ⟨t, hO, ?_⟩
    show f_X7_upTo_L32 _ _ _ (f + 1) _ _ _ (nI (r + 1)) t.1 t.2 = _
    rw [f_X7_upTo_L32_s, if_pos (nI_lt (by omega) (by omega))]
/-! patches -/
def aw (M : Nat) (a b c d : Int32) (i : Nat) : Nat → Bool
  | 0 => true
  | k + 1 => aw M a b c d i k && decide (RI M (a + nI i) (b + nI k) = RI M (c + nI i) (d + nI k))
def al (M : Nat) (a b c d : Int32) (s : Nat) : Nat → Bool
  | 0 => true
  | i + 1 => al M a b c d s i && aw M a b c d i s
theorem aw_f {M : Nat} {a b c d : Int32} {i k : Nat} (h : aw M a b c d i k = false) : ∀ e, aw M a b c d i (k + e) = false
  | 0 => h
  | e + 1 => by
    show (aw M a b c d i (k + e) && _) = false
    rw [aw_f h e]
    rfl
theorem al_f {M : Nat} {a b c d : Int32} {s i : Nat} (h : al M a b c d s i = false) : ∀ e, al M a b c d s (i + e) = false
  | 0 => h
  | e + 1 => by
    show (al M a b c d s (i + e) && _) = false
    rw [al_f h e]
    rfl
theorem ak_6 (z : SET P E h g) {a b c d : Int32} {s : Nat} (hs : s ≤ 32) : f_X6_areLike a b c d (nI s) h (nI (P ^ E)) = some (if al (P ^ E) a b c d s s then 1 else 0) := by
  unfold f_X6_areLike
  refine lp_ (σ := Unit) (fun f i _ => f_X6_areLike_L3 (some 1) a b c d (nI s) h (nI (P ^ E)) f (nI i)) (fun i _ => al (P ^ E) a b c d s i = true) s (fun o => o = some (if al (P ^ E) a b c d s s then 1 else 0)) ?_ ?_ s 0 5000 () (by omega) (by omega) rfl
  · intro f i _ hi hI
    have inner : ∀ (k : Option Int32), ((aw (P ^ E) a b c d i s = true ∧ f_X6_areLike_L13 k a b c d (nI s) (nI i) h (nI (P ^ E)) 5000 0 = k) ∨ (aw (P ^ E) a b c d i s = false ∧ f_X6_areLike_L13 k a b c d (nI s) (nI i) h (nI (P ^ E)) 5000 0 = some 0)) := by
      intro k
      refine lp_ (σ := Unit) (fun f j _ => f_X6_areLike_L13 k a b c d (nI s) (nI i) h (nI (P ^ E)) f (nI j)) (fun j _ => aw (P ^ E) a b c d i j = true) s (fun o => (aw (P ^ E) a b c d i s = true ∧ o = k) ∨ (aw (P ^ E) a b c d i s = false ∧ o = some 0)) ?_ ?_ s 0 5000 () (by omega) (by omega) rfl
      · intro f j _ hj hI
        by_cases q : RI (P ^ E) (a + nI i) (b + nI j) = RI (P ^ E) (c + nI i) (d + nI j)
        · refine Or.inr ⟨(), ?_, ?_⟩
          · show (aw (P ^ E) a b c d i j && decide _) = true
            rw [hI, decide_eq_true q]
            rfl
          · show f_X6_areLike_L13 _ _ _ _ _ _ _ _ _ (f + 1) (nI j) = f_X6_areLike_L13 _ _ _ _ _ _ _ _ _ f (nI (j + 1))
            rw [f_X6_areLike_L13_s, if_neg (le_f (by omega) (by omega)), z.r, ob_s, z.r, ob_s, if_pos q, nI_1]
        · refine Or.inl (Or.inr ⟨?_, ?_⟩)
          · have e : aw (P ^ E) a b c d i (j + 1) = false := by
              show (aw (P ^ E) a b c d i j && decide _) = false
              rw [hI, decide_eq_false q]
              rfl
            have := aw_f e (s - (j + 1))
            rw [show j + 1 + (s - (j + 1)) = s by omega] at this
            exact this
          · show f_X6_areLike_L13 _ _ _ _ _ _ _ _ _ (f + 1) (nI j) = _
            rw [f_X6_areLike_L13_s, if_neg (le_f (by omega) (by omega)), z.r, ob_s, z.r, ob_s, if_neg q]
      · intro f _ hI
        refine Or.inl ⟨hI, ?_⟩
        show f_X6_areLike_L13 _ _ _ _ _ _ _ _ _ (f + 1) (nI s) = _
        rw [f_X6_areLike_L13_s, if_pos (le_t (by omega) (by omega))]
    have st : ∀ k, f_X6_areLike_L3 (some 1) a b c d (nI s) h (nI (P ^ E)) (f + 1) (nI i) = k → k = f_X6_areLike_L13 (f_X6_areLike_L3 (some 1) a b c d (nI s) h (nI (P ^ E)) f (nI (i + 1))) a b c d (nI s) (nI i) h (nI (P ^ E)) 5000 0 := by
      intro k hk
      rw [← hk, f_X6_areLike_L3_s, if_neg (le_f (by omega) (by omega)), nI_1]
    rcases inner (f_X6_areLike_L3 (some 1) a b c d (nI s) h (nI (P ^ E)) f (nI (i + 1))) with ⟨q, e⟩ | ⟨q, e⟩
    · refine Or.inr ⟨(), ?_, ?_⟩
      · show (al (P ^ E) a b c d s i && aw (P ^ E) a b c d i s) = true
        rw [hI, q]
        rfl
      · show f_X6_areLike_L3 _ _ _ _ _ _ _ _ (f + 1) (nI i) = f_X6_areLike_L3 _ _ _ _ _ _ _ _ f (nI (i + 1))
        rw [st _ rfl, e]
    · refine Or.inl ?_
      have e2 : al (P ^ E) a b c d s (i + 1) = false := by
        show (al (P ^ E) a b c d s i && aw (P ^ E) a b c d i s) = false
        rw [hI, q]
        rfl
      have := al_f e2 (s - (i + 1))
      rw [show i + 1 + (s - (i + 1)) = s by omega] at this
      show f_X6_areLike_L3 _ _ _ _ _ _ _ _ (f + 1) (nI i) = _
      rw [st _ rfl, e, this]
      rfl
  · intro f _ hI
    show f_X6_areLike_L3 _ _ _ _ _ _ _ _ (f + 1) (nI s) = _
    rw [f_X6_areLike_L3_s, if_pos (le_t (by omega) (by omega)), hI]
    rfl
def bI (b : Bool) : Int32 := if b then 1 else 0
theorem bI_and (a : Bool) {p : Prop} {i : Decidable p} : bI a &&& (if p then 1 else 0) = bI (a && decide p) := by
  by_cases h : p
  · rw [if_pos h, decide_eq_true h]
    cases a <;> rfl
  · rw [if_neg h, decide_eq_false h]
    cases a <;> rfl
theorem bI_or (a : Bool) {p : Prop} {i : Decidable p} : bI a ||| (if p then 1 else 0) = bI (a || decide p) := by
  by_cases h : p
  · rw [if_pos h, decide_eq_true h]
    cases a <;> rfl
  · rw [if_neg h, decide_eq_false h]
    cases a <;> rfl
theorem bz_b (a : Bool) : bz_ (bI a) = some (bI a) := by cases a <;> rfl
theorem bI_c (a : Bool) : (if ¬ bI a = 0 then (1 : Int32) else 0) = bI a := by cases a <;> rfl
theorem ak_7 (z : SET P E h g) (hO : OK t) {a b c d : Int32} {s : Nat} (hs : s ≤ 32) : ∃ t', OK t' ∧ f_X7_areLike a b c d (nI s) g t.1 t.2 = some (bI (al (P ^ E) a b c d s s), t'.1, t'.2) := by
  unfold f_X7_areLike
  refine ldt_ (τ := TR) OK (fun f i t => f_X7_areLike_L6 (fun x y z => Option.bind (bz_ x) (fun _ => some (x, y, z))) a b c d (nI s) g f (bI (al (P ^ E) a b c d s i)) (nI i) t.1 t.2) s (fun o => ∃ t', OK t' ∧ o = some (bI (al (P ^ E) a b c d s s), t'.1, t'.2)) ?_ ?_ s 0 5000 t (by omega) (by omega) hO
  · intro f i t hi hO
    have inner : ∀ (k : Int32 → (Nat → Int32) → Int32 → Option (Int32 × (Nat → Int32) × Int32)) (t : TR), OK t → ∃ t', OK t' ∧ f_X7_areLike_L16 k a b c d (nI s) (nI i) g 5000 (bI (al (P ^ E) a b c d s i)) 0 t.1 t.2 = k (bI (al (P ^ E) a b c d s i && aw (P ^ E) a b c d i s)) t'.1 t'.2 := by
      intro k t hO
      have F := ldt_ (τ := TR) OK (fun f j t => f_X7_areLike_L16 k a b c d (nI s) (nI i) g f (bI (al (P ^ E) a b c d s i && aw (P ^ E) a b c d i j)) (nI j) t.1 t.2) s (fun o => ∃ t', OK t' ∧ o = k (bI (al (P ^ E) a b c d s i && aw (P ^ E) a b c d i s)) t'.1 t'.2) ?_ ?_ s 0 5000 t (by omega) (by omega) hO
      · have F' : ∃ t', OK t' ∧ f_X7_areLike_L16 k a b c d (nI s) (nI i) g 5000 (bI (al (P ^ E) a b c d s i && true)) (nI 0) t.1 t.2 = k (bI (al (P ^ E) a b c d s i && aw (P ^ E) a b c d i s)) t'.1 t'.2 := F
        rw [Bool.and_true] at F'
        exact F'
      · intro f j t hj hO
        obtain ⟨t1, a1, b1⟩ := rm_7 z.1 z.2.1 hO (a + nI i) (b + nI j)
        obtain ⟨t2, a2, b2⟩ := rm_7 z.1 z.2.1 a1 (c + nI i) (d + nI j)
        refine ⟨t2, a2, ?_⟩
        show f_X7_areLike_L16 _ _ _ _ _ _ _ _ (f + 1) _ (nI j) t.1 t.2 = f_X7_areLike_L16 _ _ _ _ _ _ _ _ f (bI (al (P ^ E) a b c d s i && (aw (P ^ E) a b c d i j && decide (RI (P ^ E) (a + nI i) (b + nI j) = RI (P ^ E) (c + nI i) (d + nI j))))) (nI (j + 1)) t2.1 t2.2
        rw [f_X7_areLike_L16_s, if_neg (le_f (by omega) (by omega)), b1, ob_s, b2, ob_s, nI_1, bI_and, Bool.and_assoc]
      · intro f t hO
        refine ⟨t, hO, ?_⟩
        show f_X7_areLike_L16 _ _ _ _ _ _ _ _ (f + 1) _ (nI s) t.1 t.2 = _
        rw [f_X7_areLike_L16_s, if_pos (le_t (by omega) (by omega))]
    obtain ⟨t', a1, b1⟩ := inner (fun x y z => f_X7_areLike_L6 (fun x y z => Option.bind (bz_ x) (fun _ => some (x, y, z))) a b c d (nI s) g f x (nI (i + 1)) y z) t hO
    refine ⟨t', a1, ?_⟩
    show f_X7_areLike_L6 _ _ _ _ _ _ _ (f + 1) _ (nI i) t.1 t.2 = f_X7_areLike_L6 _ _ _ _ _ _ _ f (bI (al (P ^ E) a b c d s i && aw (P ^ E) a b c d i s)) (nI (i + 1)) t'.1 t'.2
    rw [f_X7_areLike_L6_s, if_neg (le_f (by omega) (by omega)), nI_1]
    exact b1
  · intro f t hO
    refine ⟨t, hO, ?_⟩
    show f_X7_areLike_L6 _ _ _ _ _ _ _ (f + 1) _ (nI s) t.1 t.2 = _
    rw [f_X7_areLike_L6_s, if_pos (le_t (by omega) (by omega)), bz_b, ob_s]
end ROWT
