/-! p40: a text of clauses, read whole or with a wrong byte in it -/
abbrev SG : Type := (Nat → Int32) × Int32 × Int32 × Int32 × Int32 × Int32 × Int32
def S0 : SG := (fun _ => 0, 0, 2, 1, 2, 0, 0)
def dC (l a b : Int32) (σ : SG) : Option (Int32 × SG) := f_X6_doClause l a b σ.1 σ.2.1 σ.2.2.1 σ.2.2.2.1 σ.2.2.2.2.1 σ.2.2.2.2.2.1 σ.2.2.2.2.2.2
/-- the first z bytes of tx are k clauses, told by the lines of cn; done one behind the other they lead to σ, t of them done -/
def TX (tx cn : Nat → Int32) : Nat → Nat → SG → Nat → Prop
  | 0, z, σ, t => z = 0 ∧ σ = S0 ∧ t = 0
  | k + 1, z', σ', t' => ∃ z σ t r, TX tx cn k z σ t ∧ (k = 0 ∨ tx z = 59) ∧ CLZ tx (if k = 0 then 0 else z + 1) z' (cn (3 * k)) (cn (3 * k + 1)) (cn (3 * k + 2)) ∧ dC (cn (3 * k)) (cn (3 * k + 1)) (cn (3 * k + 2)) σ = some (r, σ') ∧ t' = if r < 0 then t else t + 1
theorem TX.b {tx cn : Nat → Int32} : ∀ (k z : Nat) (σ : SG) (t : Nat), TX tx cn k z σ t → z ≤ 9 * k ∧ t ≤ k ∧ (0 < k → 0 < z) ∧ (k = 0 → z = 0)
  | 0, z, σ, t, h => by
    obtain ⟨rfl, _, rfl⟩ := h
    omega
  | k + 1, z', σ', t', h => by
    obtain ⟨z, σ, t, r, h1, h2, h3, h4, rfl⟩ := h
    have := TX.b k z σ t h1
    have hl := h3.l
    split at hl <;> split <;> omega
theorem TX.c {tx tx2 cn cn2 : Nat → Int32} : ∀ (k z : Nat) (σ : SG) (t : Nat), TX tx cn k z σ t → (∀ j, j < z → tx2 j = tx j) → (∀ j, j < 3 * k → cn2 j = cn j) → TX tx2 cn2 k z σ t
  | 0, z, σ, t, h, _, _ => h
  | k + 1, z', σ', t', h, q1, q2 => by
    obtain ⟨z, σ, t, r, h1, h2, h3, h4, h5⟩ := h
    have hl := h3.l
    have hb := TX.b k z σ t h1
    have hz : z < z' := by
      split at hl <;> omega
    refine ⟨z, σ, t, r, TX.c k z σ t h1 (fun j hj => q1 j (by omega)) (fun j hj => q2 j (by omega)), h2.imp id (fun e => by rw [q1 z hz]; exact e), ?_, ?_, h5⟩
    · rw [q2 (3 * k) (by omega), q2 (3 * k + 1) (by omega), q2 (3 * k + 2) (by omega)]
      exact h3.c (fun j _ hj => q1 j hj)
    · rw [q2 (3 * k) (by omega), q2 (3 * k + 1) (by omega), q2 (3 * k + 2) (by omega)]
      exact h4
section RDS
variable {tx tx2 cn : Nat → Int32} {L : Nat} {k14 : (Nat → Int32) → Int32 → Int32 → Option (Int32 × (Nat → Int32) × Int32 × Int32)}
theorem fl_go {k x z : Nat} {l a b : Int32} {f : Nat} {c : Nat → Int32} (hk : k ≤ 10) (hL : L ≤ 100) (h : TKO tx2 L x z l a b) (hz : z < L) (h59 : tx2 z = 59) : f_X2_faultOfText_L14 k14 tx2 (nI L) (f + 1) (nI k) c (nI k) (nI x) = f_X2_faultOfText_L14 k14 tx2 (nI L) f (nI (k + 1)) (up3 c k l a b) (nI (k + 1)) (nI (z + 1)) := by
  have e59 : sg tx2 L z = 59 := (sg_in hz).trans h59
  rw [f_X2_faultOfText_L14_s, zl_12, if_neg (le_f (by omega) (by omega)), h c k (by omega), ob_s, if_neg (show ¬ (1 : Int32) = 0 by decide), if_pos (nI_lt hz (by omega)), zl_11, if_neg (eq_f (by omega) (by omega) (by omega)), tk_ hL (by omega), ob_s, if_pos e59, if_pos e59, if_neg (show ¬ (1 : Int32) = 0 by decide), nI_1]
theorem fl_end {k x : Nat} {l a b : Int32} {f : Nat} {c : Nat → Int32} (hk : k ≤ 10) (hL : L ≤ 100) (h : TKO tx2 L x L l a b) : f_X2_faultOfText_L14 k14 tx2 (nI L) (f + 1) (nI k) c (nI k) (nI x) = some (-1, up3 c k l a b, nI (k + 1), nI L) := by
  rw [f_X2_faultOfText_L14_s, zl_12, if_neg (le_f (by omega) (by omega)), h c k (by omega), ob_s, if_neg (show ¬ (1 : Int32) = 0 by decide), if_neg (nI_nlt (Nat.le_refl _) (by omega))]
theorem fl_bad {k x w : Nat} {f : Nat} {c : Nat → Int32} (hk : k ≤ 10) (hL : L ≤ 100) (hw : w < L) (e : tx2 w = 33) (h : TKF tx2 L x w ∨ ∃ l a b, TKO tx2 L x w l a b) : ∃ c' s', f_X2_faultOfText_L14 k14 tx2 (nI L) (f + 1) (nI k) c (nI k) (nI x) = some (nI w, c', s', nI w) := by
  have e33 : ¬ sg tx2 L w = 59 := by
    rw [sg_in hw, e]
    decide
  rcases h with h | ⟨l, a, b, h⟩
  · refine ⟨c, nI k, ?_⟩
    rw [f_X2_faultOfText_L14_s, zl_12, if_neg (le_f (by omega) (by omega)), h c k (by omega), ob_s, if_pos rfl]
  · refine ⟨up3 c k l a b, nI (k + 1), ?_⟩
    rw [f_X2_faultOfText_L14_s, zl_12, if_neg (le_f (by omega) (by omega)), h c k (by omega), ob_s, if_neg (show ¬ (1 : Int32) = 0 by decide), if_pos (nI_lt hw (by omega)), zl_11, if_neg (eq_f (by omega) (by omega) (by omega)), tk_ hL (by omega), ob_s, if_neg e33, if_neg e33, if_pos rfl]
theorem rd_tx (hL : L ≤ 100) : ∀ (k z : Nat) (σ : SG) (t : Nat), TX tx cn k z σ t → k ≤ 11 → (∀ j, j < z → tx2 j = tx j) → (k = 0 ∨ (z < L ∧ tx2 z = 59)) → ∀ (f : Nat) (c0 : Nat → Int32), ∃ c1, (∀ j, j < 3 * k → c1 j = cn j) ∧ f_X2_faultOfText_L14 k14 tx2 (nI L) (f + k) (nI 0) c0 (nI 0) (nI 0) = f_X2_faultOfText_L14 k14 tx2 (nI L) f (nI k) c1 (nI k) (nI (if k = 0 then 0 else z + 1))
  | 0, z, σ, t, h, _, _, _, f, c0 => ⟨c0, fun j hj => absurd hj (by omega), rfl⟩
  | k + 1, z', σ', t', h, hk, q, hz, f, c0 => by
    obtain ⟨z, σ, t, r, h1, h2, h3, h4, h5⟩ := h
    have hl := h3.l
    have hb := TX.b k z σ t h1
    have hzz : z < z' := by
      split at hl <;> omega
    have hz2 : z' < L ∧ tx2 z' = 59 := by
      rcases hz with hz | hz
      · omega
      · exact hz
    obtain ⟨c1, a1, a2⟩ := rd_tx hL k z σ t h1 (by omega) (fun j hj => q j (by omega)) (h2.imp id (fun e => ⟨by omega, (q z hzz).trans e⟩)) (f + 1) c0
    have ok : TKO tx2 L (if k = 0 then 0 else z + 1) z' (cn (3 * k)) (cn (3 * k + 1)) (cn (3 * k + 2)) := cl_ok hL (h3.c (fun j _ hj => q j hj)) (by omega) (by rw [sg_in hz2.1, hz2.2]; exact nd_59)
    refine ⟨up3 c1 k (cn (3 * k)) (cn (3 * k + 1)) (cn (3 * k + 2)), fun j hj => ?_, ?_⟩
    · by_cases e0 : j < 3 * k
      · rw [u3_n e0]
        exact a1 j e0
      · have e1 : j = 3 * k ∨ j = 3 * k + 1 ∨ j = 3 * k + 2 := by omega
        rcases e1 with rfl | rfl | rfl
        · rw [u3_0]
        · rw [u3_1]
        · rw [u3_2]
    · rw [show f + (k + 1) = f + 1 + k by omega, a2, fl_go (by omega) hL ok hz2.1 hz2.2, if_neg (show ¬ k + 1 = 0 by omega)]
theorem rd_bad (hL : L ≤ 100) {w : Nat} (hw : w < L) (e : tx2 w = 33) (q : ∀ j, j < w → tx2 j = tx j) : ∀ (k z : Nat) (σ : SG) (t : Nat), TX tx cn k z σ t → 0 < k → k ≤ 11 → w ≤ z → ∀ (f : Nat) (c0 : Nat → Int32), k < f → ∃ c' s', f_X2_faultOfText_L14 k14 tx2 (nI L) f (nI 0) c0 (nI 0) (nI 0) = some (nI w, c', s', nI w)
  | 0, z, σ, t, h, h0, _, _, _, _, _ => absurd h0 (by omega)
  | k + 1, z', σ', t', h, h0, hk, hwz, f, c0, hf => by
    obtain ⟨z, σ, t, r, h1, h2, h3, h4, h5⟩ := h
    have hb := TX.b k z σ t h1
    by_cases c : 0 < k ∧ w ≤ z
    · exact rd_bad hL hw e q k z σ t h1 c.1 (by omega) c.2 f c0 (by omega)
    · have hs : (if k = 0 then 0 else z + 1) ≤ w := by
        split <;> omega
      have hzw : k = 0 ∨ z < w := by omega
      obtain ⟨g, rfl⟩ : ∃ g, f = g + 1 + k := ⟨f - 1 - k, by omega⟩
      obtain ⟨c1, a1, a2⟩ := rd_tx (tx2 := tx2) (k14 := k14) hL k z σ t h1 (by omega) (fun j hj => by
        rcases hzw with h | h
        · have := hb.2.2.2 h
          omega
        · exact q j (by omega)) (by
        rcases hzw with h | h
        · exact Or.inl h
        · rcases h2 with h2 | h2
          · exact Or.inl h2
          · exact Or.inr ⟨by omega, (q z h).trans h2⟩) (g + 1) c0
      rw [a2]
      exact fl_bad (by omega) hL hw e (cl_bad hL h3 hs hwz hw (fun j _ hj => q j hj) e)
theorem rd_ok2 {k z : Nat} {σ : SG} {t : Nat} (h : TX tx cn k z σ t) (h0 : 0 < k) (hk : k ≤ 11) (q : ∀ j, j < z → tx2 j = tx j) {f : Nat} (hf : k < f) (c0 : Nat → Int32) : ∃ c1, (∀ j, j < 3 * k → c1 j = cn j) ∧ f_X2_faultOfText_L14 k14 tx2 (nI z) f (nI 0) c0 (nI 0) (nI 0) = some (-1, c1, nI k, nI z) := by
  obtain ⟨m, rfl⟩ : ∃ m, k = m + 1 := ⟨k - 1, by omega⟩
  have hb' := TX.b (m + 1) z σ t h
  obtain ⟨z0, σ0, t0, r, h1, h2, h3, h4, h5⟩ := h
  have hl := h3.l
  have hb := TX.b m z0 σ0 t0 h1
  have hzz : z0 < z := by
    split at hl <;> omega
  obtain ⟨g, rfl⟩ : ∃ g, f = g + 1 + m := ⟨f - 1 - m, by omega⟩
  obtain ⟨c1, a1, a2⟩ := rd_tx (tx2 := tx2) (k14 := k14) (L := z) (by omega) m z0 σ0 t0 h1 (by omega) (fun j hj => q j (by omega)) (h2.imp id (fun e => ⟨by omega, (q z0 hzz).trans e⟩)) (g + 1) c0
  have ok : TKO tx2 z (if m = 0 then 0 else z0 + 1) z (cn (3 * m)) (cn (3 * m + 1)) (cn (3 * m + 2)) := cl_ok (by omega) (h3.c (fun j _ hj => q j hj)) (Nat.le_refl _) (by
    rw [show sg tx2 z z = -1 from if_neg (Nat.lt_irrefl _)]
    exact nd_m1)
  refine ⟨up3 c1 m (cn (3 * m)) (cn (3 * m + 1)) (cn (3 * m + 2)), fun j hj => ?_, ?_⟩
  · by_cases e0 : j < 3 * m
    · rw [u3_n e0]
      exact a1 j e0
    · have e1 : j = 3 * m ∨ j = 3 * m + 1 ∨ j = 3 * m + 2 := by omega
      rcases e1 with rfl | rfl | rfl
      · rw [u3_0]
      · rw [u3_1]
      · rw [u3_2]
  · rw [a2, fl_end (by omega) (by omega) ok]
end RDS
theorem ex_tx {tx cn c1 : Nat → Int32} {n : Nat} (hn : n ≤ 12) {K : Int32 → (Nat → Int32) → Int32 → Int32 → Int32 → Int32 → Int32 → Int32 → Option (Int32 × (Nat → Int32) × Int32 × Int32 × Int32 × Int32 × Int32 × Int32 × (Nat → Int32) × Int32 × Int32 × Int32)} : ∀ (k z : Nat) (σ : SG) (t : Nat), TX tx cn k z σ t → k ≤ n → (∀ j, j < 3 * k → c1 j = cn j) → ∀ f, f_X6_read_L29 K c1 (nI n) (f + k) (nI 0) (nI 0) S0.1 S0.2.1 S0.2.2.1 S0.2.2.2.1 S0.2.2.2.2.1 S0.2.2.2.2.2.1 S0.2.2.2.2.2.2 = f_X6_read_L29 K c1 (nI n) f (nI t) (nI k) σ.1 σ.2.1 σ.2.2.1 σ.2.2.2.1 σ.2.2.2.2.1 σ.2.2.2.2.2.1 σ.2.2.2.2.2.2
  | 0, z, σ, t, h, _, _, f => by
    obtain ⟨_, rfl, rfl⟩ := h
    rfl
  | k + 1, z', σ', t', h, hk, q, f => by
    obtain ⟨z, σ, t, r, h1, h2, h3, h4, h5⟩ := h
    have hb := TX.b k z σ t h1
    rw [show f + (k + 1) = f + 1 + k by omega, ex_tx hn k z σ t h1 (by omega) (fun j hj => q j (by omega)) (f + 1), f_X6_read_L29_s, if_neg (le_f (by omega) (by omega))]
    have n0 : f_X1_number (nI k) (0 : Int32) 36 c1 (nI n) = some (cn (3 * k)) := by
      rw [zl_0, nu_ (by omega) hn (by omega) (by omega) (by omega), q (3 * k + 0) (by omega)]
      rfl
    have n1 : f_X1_number (nI k) (1 : Int32) 36 c1 (nI n) = some (cn (3 * k + 1)) := by
      rw [zl_1, nu_ (by omega) hn (by omega) (by omega) (by omega), q (3 * k + 1) (by omega)]
    have n2 : f_X1_number (nI k) (2 : Int32) 36 c1 (nI n) = some (cn (3 * k + 2)) := by
      rw [zl_2, nu_ (by omega) hn (by omega) (by omega) (by omega), q (3 * k + 2) (by omega)]
    have d : f_X6_doClause (cn (3 * k)) (cn (3 * k + 1)) (cn (3 * k + 2)) σ.1 σ.2.1 σ.2.2.1 σ.2.2.2.1 σ.2.2.2.2.1 σ.2.2.2.2.2.1 σ.2.2.2.2.2.2 = some (r, σ') := h4
    rw [n0, ob_s, n1, ob_s, n2, ob_s, d, ob_s]
    subst h5
    by_cases c : r < 0
    · rw [if_pos c, if_pos c, nI_1]
    · rw [if_neg c, if_neg c, nI_1, nI_1]
theorem em_1 {x : Int32} : f_X1_empty x = some 0 := rfl
theorem em_2 {x : Int32} : f_X2_emptyText x = some 0 := rfl
/-- read of a text with a wrong byte: the FAULT, nothing else -/
theorem re_bad {tx tx2 cn c0 : Nat → Int32} {k z w t : Nat} {σ : SG} {cs nx : Int32} (h : TX tx cn k z σ t) (h0 : 0 < k) (hk : k ≤ 11) (hw : w < z) (e : tx2 w = 33) (q : ∀ j, j < w → tx2 j = tx j) (mn : Nat → Int32) (ms p e' M wr wp : Int32) : ∃ c' s', f_X6_read mn ms p e' M wr wp tx2 c0 cs (nI z) nx = some (-10 - nI w, mn, ms, p, e', M, wr, wp, c', s', 0, nI w) := by
  have hb := TX.b k z σ t h
  unfold f_X6_read f_X2_faultOfText
  obtain ⟨c', s', a⟩ := rd_bad (k14 := fun xc_o_clauses_numbers_14 xc_o_clauses_size_14 xc_o_next_14 => (some (xc_o_next_14, xc_o_clauses_numbers_14, xc_o_clauses_size_14, xc_o_next_14))) (L := z) (tx2 := tx2) (by omega) hw e q k z σ t h h0 hk (by omega) 5000 c0 (by omega)
  refine ⟨c', s', ?_⟩
  rw [em_1, ob_s, zl_0, a, ob_s, em_2, ob_s, if_neg (nI_nm1 (by omega))]
  rfl
/-- read of a text of clauses: they are done -/
theorem re_ok {tx tx2 cn c0 : Nat → Int32} {k z t : Nat} {σ : SG} {cs nx : Int32} (h : TX tx cn k z σ t) (h0 : 0 < k) (hk : k ≤ 11) (q : ∀ j, j < z → tx2 j = tx j) : ∃ c' s' n', f_X6_read S0.1 S0.2.1 S0.2.2.1 S0.2.2.2.1 S0.2.2.2.2.1 S0.2.2.2.2.2.1 S0.2.2.2.2.2.2 tx2 c0 cs (nI z) nx = some (nI t, σ.1, σ.2.1, σ.2.2.1, σ.2.2.2.1, σ.2.2.2.2.1, σ.2.2.2.2.2.1, σ.2.2.2.2.2.2, c', s', 0, n') := by
  have hb := TX.b k z σ t h
  unfold f_X6_read f_X2_faultOfText
  obtain ⟨c1, a1, a2⟩ := rd_ok2 (k14 := fun xc_o_clauses_numbers_14 xc_o_clauses_size_14 xc_o_next_14 => (some (xc_o_next_14, xc_o_clauses_numbers_14, xc_o_clauses_size_14, xc_o_next_14))) (tx2 := tx2) h h0 hk q (f := 5000) (by omega) c0
  refine ⟨c1, nI k, nI z, ?_⟩
  rw [em_1, ob_s, zl_0, a2, ob_s, em_2, ob_s, if_pos rfl, show (5000 : Nat) = (4999 - k) + 1 + k by omega]
  show f_X6_read_L29 _ c1 (nI k) _ (nI 0) (nI 0) _ _ _ _ _ _ _ = _
  rw [ex_tx (n := k) (by omega) k z σ t h (Nat.le_refl _) a1, f_X6_read_L29_s, if_pos (le_t (Nat.le_refl _) (by omega))]
  rfl
