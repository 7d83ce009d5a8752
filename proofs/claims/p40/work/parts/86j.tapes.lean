/-! tapes -/
def TP (so le : Nat → Int32) (it : Nat → Int64) (so' sz : Nat → Int32) (it' : Nat → Int64) : Prop := ∀ T, T < 6 → so T = so' T ∧ (so' T = -1 ∨ ∃ k, k ≤ 4 ∧ so' T = nI k) ∧ ∃ L, L ≤ 60 ∧ le T = nI L ∧ sz T = nI L ∧ (so' T = -1 → L = 0) ∧ ∀ i, i < L → it (60 * T + i) = it' (60 * T + i)
section TAPES
variable {so le so' sz : Nat → Int32} {it it' : Nat → Int64}
theorem so_ {T : Nat} (h : T < 6) {f : Nat → Int32} : f_X4_sortOf (nI T) f = some (f T) := by
  unfold f_X4_sortOf
  rw [zo_, zl_0, if_pos ⟨nI_nlt (by omega) (by omega), le_f (by omega) (by omega)⟩, rd_n (by omega) (by omega), ob_s]
theorem ln_ {T : Nat} (h : T < 6) {f : Nat → Int32} : f_X4_lengthOf (nI T) f = some (f T) := by
  unfold f_X4_lengthOf
  rw [zo_, zl_0, if_pos ⟨nI_nlt (by omega) (by omega), le_f (by omega) (by omega)⟩, rd_n (by omega) (by omega), ob_s]
theorem th_ {x : Int32} (h : ¬ f_X4_isThere x = 0) : ∃ T, x = nI T ∧ T < 6 := by
  obtain ⟨j, e, _, l⟩ := iw_n (a := 0) (b := 5) h (by omega) (by omega)
  exact ⟨j, e, by omega⟩
theorem hr_ {T : Nat} (h : T < 6) {x n : Int32} {f : Nat → Int32} : f_X4_hasRun (nI T) x n f = some (if ¬ n < 0 ∧ ¬ x < 0 ∧ ¬ (f T - n < x) then 1 else 0) := by
  unfold f_X4_hasRun
  by_cases q : ¬ n < 0 ∧ ¬ x < 0
  · rw [if_pos q, ln_ h, ob_s]
    by_cases q2 : f T - n < x
    · rw [if_neg (fun z => z q2), if_neg (fun z => z.2.2 q2)]
    · rw [if_pos q2, if_pos ⟨q.1, q.2, q2⟩]
  · rw [if_neg q, if_neg (fun z => q ⟨z.1, z.2.1⟩)]
theorem h1_ {T L i : Nat} (h : T < 6) {f : Nat → Int32} (e : f T = nI L) (hi : i < L) (hL : L ≤ 60) : f_X4_hasRun (nI T) (nI i) 1 f = some 1 := by
  obtain ⟨l, rfl⟩ : ∃ l, L = l + 1 := ⟨L - 1, by omega⟩
  rw [hr_ h, e, nI_pred, if_pos ⟨by decide, nI_pos (by omega), nI_nlt (by omega) (by omega)⟩]
theorem cu_ {k : Nat} (hk : k ≤ 4) (v : Int64) : ∃ w, f_X4_cutToSort (nI k) v = some w ∧ f_X7_lies (nI k) v = some w := by
  have e : k = 0 ∨ k = 1 ∨ k = 2 ∨ k = 3 ∨ k = 4 := by omega
  unfold f_X4_cutToSort f_X7_lies
  rcases e with rfl | rfl | rfl | rfl | rfl
  · rw [if_pos (show nI 0 = 0 from rfl), if_pos (show nI 0 = 0 from rfl)]
    exact ⟨_, rfl, rfl⟩
  · rw [if_neg (show ¬ nI 1 = 0 by decide), if_neg (show ¬ nI 1 = 0 by decide), if_pos (show nI 1 = 1 from rfl), if_pos (show nI 1 = 1 from rfl)]
    exact ⟨_, rfl, rfl⟩
  · rw [if_neg (show ¬ nI 2 = 0 by decide), if_neg (show ¬ nI 2 = 0 by decide), if_neg (show ¬ nI 2 = 1 by decide), if_neg (show ¬ nI 2 = 1 by decide), if_pos (show nI 2 = 2 from rfl), if_pos (show nI 2 = 2 from rfl)]
    exact ⟨_, rfl, rfl⟩
  · rw [if_neg (show ¬ nI 3 = 0 by decide), if_neg (show ¬ nI 3 = 0 by decide), if_neg (show ¬ nI 3 = 1 by decide), if_neg (show ¬ nI 3 = 1 by decide), if_neg (show ¬ nI 3 = 2 by decide), if_neg (show ¬ nI 3 = 2 by decide), if_pos (show nI 3 = 3 from rfl), if_pos (show nI 3 = 3 from rfl)]
    exact ⟨_, rfl, rfl⟩
  · rw [if_neg (show ¬ nI 4 = 0 by decide), if_neg (show ¬ nI 4 = 0 by decide), if_neg (show ¬ nI 4 = 1 by decide), if_neg (show ¬ nI 4 = 1 by decide), if_neg (show ¬ nI 4 = 2 by decide), if_neg (show ¬ nI 4 = 2 by decide), if_neg (show ¬ nI 4 = 3 by decide), if_neg (show ¬ nI 4 = 3 by decide), if_pos (show nI 4 = 4 from rfl)]
    refine ⟨_, rfl, ?_⟩
    by_cases q : lg_cmp v 0 = 0
    · rw [if_pos q, if_neg (fun z => z q)]
    · rw [if_neg q, if_pos q]
theorem c0z {x : Int32} (h : x = -1 ∨ ∃ k, k ≤ 4 ∧ x = nI k) : f_X4_cutToSort x 0 = some 0 := by
  rcases h with rfl | ⟨k, hk, rfl⟩
  · decide
  · have e : k = 0 ∨ k = 1 ∨ k = 2 ∨ k = 3 ∨ k = 4 := by omega
    rcases e with rfl | rfl | rfl | rfl | rfl <;> decide
theorem pt_ {T L i : Nat} (h : T < 6) {f sf : Nat → Int32} (e : f T = nI L) (hi : i < L) (hL : L ≤ 60) {v w : Int64} (hc : f_X4_cutToSort (sf T) v = some w) {g : Nat → Int64} : f_X4_put (nI T) (nI i) v sf f g = some (vp_updL g (60 * T + i) w) := by
  unfold f_X4_put
  rw [h1_ h e hi hL, ob_s, zl_60, pk_mul, nI_add, zo_, zl_0, if_pos ⟨by decide, nI_nlt (by omega) (by omega), le_f (by omega) (by omega)⟩, so_ h, ob_s, hc, ob_s, wrL_n (by omega) (by omega), ob_s]
theorem va_ {T L i : Nat} (h : T < 6) {f : Nat → Int32} (e : f T = nI L) (hi : i < L) (hL : L ≤ 60) {g : Nat → Int64} : f_X4_value (nI T) (nI i) f g = some (g (60 * T + i)) := by
  unfold f_X4_value
  rw [h1_ h e hi hL, ob_s, zl_60, pk_mul, nI_add, zo_, zl_0, if_pos ⟨by decide, nI_nlt (by omega) (by omega), le_f (by omega) (by omega)⟩, rd_n (by omega) (by omega), ob_s]
theorem it_ {T L : Nat} (h : T < 6) {f : Nat → Int32} (e : f T = nI L) (x : Int32) : f_X7_isItem (nI T) x f = some (f_X6_isWithin x 0 (nI L - 1)) := by
  unfold f_X7_isItem
  rw [rd_n h (by omega), ob_s, e, ii_m]
theorem pm_item (S : TP so le it so' sz it') (p0 p1 : Int32) (p2 : Int64) : ∃ r it1 it1', TP so le it1 so' sz it1' ∧ f_X6_item p0 p1 p2 so le it = some (r, it1) ∧ f_X7_item p0 p1 p2 so' sz it' = some (r, it1') := by
  unfold f_X6_item f_X7_item
  rw [ta_7]
  by_cases q : f_X4_isThere p0 = 0
  · rw [if_pos q, if_pos q]
    exact ⟨_, _, _, S, rfl, rfl⟩
  · rw [if_neg q, if_neg q]
    obtain ⟨T, rfl, hT⟩ := th_ q
    obtain ⟨s1, s2, L, s3, s4, s5, s6, s7⟩ := S T hT
    rw [so_ hT, ob_s, rd_n hT (by omega), ob_s, s1]
    by_cases q2 : so' T = -1
    · rw [if_pos q2, if_pos q2]
      exact ⟨_, _, _, S, rfl, rfl⟩
    · rw [if_neg q2, if_neg q2, ln_ hT, ob_s, s4, it_ hT s5, ob_s]
      by_cases q3 : f_X6_isWithin p1 0 (nI L - 1) = 0
      · rw [if_pos q3, if_pos q3]
        exact ⟨_, _, _, S, rfl, rfl⟩
      · rw [if_neg q3, if_neg q3]
        obtain ⟨i, rfl, hi⟩ := m1_s (by omega) q3
        obtain ⟨k, hk, ek⟩ := s2.resolve_left q2
        obtain ⟨w, c1, c2⟩ := cu_ hk p2
        rw [pt_ hT s4 hi s3 (by rw [s1, ek]; exact c1), ob_s, ob_s, ek, c2, ob_s, zl_60, pk_mul, nI_add, wrL_n (by omega) (by omega), ob_s]
        refine ⟨_, _, _, fun X hX => ?_, rfl, rfl⟩
        obtain ⟨x1, x2, L', x3, x4, x5, x6, x7⟩ := S X hX
        refine ⟨x1, x2, L', x3, x4, x5, x6, fun j hj => ?_⟩
        by_cases z : 60 * X + j = 60 * T + i
        · rw [z, pk_uLs, pk_uLs]
        · rw [pk_uLn z, pk_uLn z]
          exact x7 j hj
theorem pm_peek (S : TP so le it so' sz it') (p0 p1 : Int32) : ∃ r, f_X6_peek p0 p1 le it = some r ∧ f_X7_peek p0 p1 sz it' = some r := by
  unfold f_X6_peek f_X7_peek
  rw [ta_7]
  by_cases q : f_X4_isThere p0 = 0
  · rw [if_pos q, if_pos q]
    exact ⟨_, rfl, rfl⟩
  · rw [if_neg q, if_neg q]
    obtain ⟨T, rfl, hT⟩ := th_ q
    obtain ⟨s1, s2, L, s3, s4, s5, s6, s7⟩ := S T hT
    rw [ln_ hT, ob_s, s4, it_ hT s5, ob_s]
    by_cases q3 : f_X6_isWithin p1 0 (nI L - 1) = 0
    · rw [if_pos q3, if_pos q3]
      exact ⟨_, rfl, rfl⟩
    · rw [if_neg q3, if_neg q3]
      obtain ⟨i, rfl, hi⟩ := m1_s (by omega) q3
      rw [va_ hT s4 hi s3, ob_s, zl_60, pk_mul, nI_add, rd_n (by omega) (by omega), ob_s, s7 i hi]
      exact ⟨_, rfl, rfl⟩
/-! a tape made anew -/
theorem be_49 {T L : Nat} (hT : T < 6) (hL : L ≤ 60) {sf f : Nat → Int32} (e : f T = nI L) (hs : f_X4_cutToSort (sf T) 0 = some 0) {α : Type} (k : (Nat → Int64) → Option ((Nat → Int32) × (Nat → Int32) × (Nat → Int64))) (it : Nat → Int64) : ∃ it1, (∀ j, j < L → it1 (60 * T + j) = 0) ∧ (∀ j, (j < 60 * T ∨ 60 * T + 60 ≤ j) → it1 j = it j) ∧ f_X4_become_L49 k (nI T) sf f 5000 0 it = k it1 := by
  refine lp_ (σ := Nat → Int64) (fun u i s => f_X4_become_L49 k (nI T) sf f u (nI i) s) (fun i s => (∀ j, j < i → s (60 * T + j) = 0) ∧ (∀ j, (j < 60 * T ∨ 60 * T + 60 ≤ j) → s j = it j)) L (fun o => ∃ it1, (∀ j, j < L → it1 (60 * T + j) = 0) ∧ (∀ j, (j < 60 * T ∨ 60 * T + 60 ≤ j) → it1 j = it j) ∧ o = k it1) ?_ ?_ L 0 5000 it (by omega) (by omega) ⟨fun j hj => by omega, fun j _ => rfl⟩
  · intro u i s hi hI
    refine Or.inr ⟨vp_updL s (60 * T + i) 0, ⟨fun j hj => ?_, fun j hj => ?_⟩, ?_⟩
    · by_cases z : j = i
      · rw [z, pk_uLs]
      · rw [pk_uLn (by omega)]
        exact hI.1 j (by omega)
    · rw [pk_uLn (by omega)]
      exact hI.2 j hj
    · show f_X4_become_L49 _ _ _ _ (u + 1) (nI i) s = f_X4_become_L49 _ _ _ _ u (nI (i + 1)) _
      rw [f_X4_become_L49_s, rd_n hT (by omega), ob_s, e, if_neg (le_f (by omega) (by omega)), pt_ hT e hi hL hs, ob_s, nI_1]
  · intro u s hI
    refine ⟨s, hI.1, hI.2, ?_⟩
    show f_X4_become_L49 _ _ _ _ (u + 1) (nI L) s = _
    rw [f_X4_become_L49_s, rd_n hT (by omega), ob_s, e, if_pos (le_t (by omega) (by omega))]
theorem be_ {T L : Nat} (hT : T < 6) (hL : L ≤ 60) {x : Int32} (hx : x = -1 ∨ ∃ k, k ≤ 4 ∧ x = nI k) (so le : Nat → Int32) (it : Nat → Int64) : ∃ it1, (∀ j, j < L → it1 (60 * T + j) = 0) ∧ (∀ j, (j < 60 * T ∨ 60 * T + 60 ≤ j) → it1 j = it j) ∧ f_X4_become (nI T) x (nI L) so le it = some (upd so T x, upd le T (nI L), it1) := by
  unfold f_X4_become
  rw [zo_, zl_0, if_neg (fun z => z.elim (nI_nlt (by omega) (by omega)) (fun z => z.elim (le_f (by omega) (by omega)) (fun z => z (nI_lt (by omega) (by omega))))), wr_n hT (by omega), ob_s, zl_60, if_neg (nI_nlt (by omega) (by omega))]
  have eL : (if nI 0 < nI L then nI L else nI 0) = nI L := by
    by_cases q : 0 < L
    · rw [if_pos (nI_lt q (by omega))]
    · rw [if_neg (nI_nlt (by omega) (by omega))]
      exact nI_e (by omega)
  rw [eL, wr_n hT (by omega), ob_s]
  exact be_49 (α := Nat) hT hL (e := pk_us) (hs := by rw [pk_us]; exact c0z hx) _ it
theorem tp_75 {T : Nat} (hT : T < 6) (k : (Nat → Int64) → Option (Int32 × (Nat → Int32) × (Nat → Int32) × (Nat → Int64))) (it : Nat → Int64) : ∃ it1, (∀ j, j < 60 → it1 (60 * T + j) = 0) ∧ (∀ j, (j < 60 * T ∨ 60 * T + 60 ≤ j) → it1 j = it j) ∧ f_X7_tape_L75 k (nI T) 5000 0 it = k it1 := by
  refine lp_ (σ := Nat → Int64) (fun u i s => f_X7_tape_L75 k (nI T) u (nI i) s) (fun i s => (∀ j, j < i → s (60 * T + j) = 0) ∧ (∀ j, (j < 60 * T ∨ 60 * T + 60 ≤ j) → s j = it j)) 60 (fun o => ∃ it1, (∀ j, j < 60 → it1 (60 * T + j) = 0) ∧ (∀ j, (j < 60 * T ∨ 60 * T + 60 ≤ j) → it1 j = it j) ∧ o = k it1) ?_ ?_ 60 0 5000 it (by omega) (by omega) ⟨fun j hj => by omega, fun j _ => rfl⟩
  · intro u i s hi hI
    refine Or.inr ⟨vp_updL s (60 * T + i) 0, ⟨fun j hj => ?_, fun j hj => ?_⟩, ?_⟩
    · by_cases z : j = i
      · rw [z, pk_uLs]
      · rw [pk_uLn (by omega)]
        exact hI.1 j (by omega)
    · rw [pk_uLn (by omega)]
      exact hI.2 j hj
    · show f_X7_tape_L75 _ _ (u + 1) (nI i) s = f_X7_tape_L75 _ _ u (nI (i + 1)) _
      rw [f_X7_tape_L75_s, zl_60, if_neg (le_f (by omega) (by omega)), pk_mul, nI_add, wrL_n (by omega) (by omega), ob_s, nI_1]
  · intro u s hI
    refine ⟨s, hI.1, hI.2, ?_⟩
    show f_X7_tape_L75 _ _ (u + 1) (nI 60) s = _
    rw [f_X7_tape_L75_s, zl_60, if_pos (le_t (by omega) (by omega))]
theorem tp_n (S : TP so le it so' sz it') {T L : Nat} (hT : T < 6) (hL : L ≤ 60) {x : Int32} (hx : x = -1 ∨ ∃ k, k ≤ 4 ∧ x = nI k) (hxL : x = -1 → L = 0) {it1 it2 : Nat → Int64} (a1 : ∀ j, j < L → it1 (60 * T + j) = 0) (a2 : ∀ j, (j < 60 * T ∨ 60 * T + 60 ≤ j) → it1 j = it j) (b1 : ∀ j, j < 60 → it2 (60 * T + j) = 0) (b2 : ∀ j, (j < 60 * T ∨ 60 * T + 60 ≤ j) → it2 j = it' j) : TP (upd so T x) (upd le T (nI L)) it1 (upd so' T x) (upd sz T (nI L)) it2 := by
  intro X hX
  by_cases e : X = T
  · subst e
    rw [pk_us, pk_us, pk_us, pk_us]
    refine ⟨rfl, hx, L, hL, rfl, rfl, hxL, fun i hi => ?_⟩
    rw [a1 i hi, b1 i (by omega)]
  · rw [pk_un e, pk_un e, pk_un e, pk_un e]
    obtain ⟨x1, x2, L', x3, x4, x5, x6, x7⟩ := S X hX
    refine ⟨x1, x2, L', x3, x4, x5, x6, fun j hj => ?_⟩
    rw [a2 _ (by omega), b2 _ (by omega)]
    exact x7 j hj
theorem pm_tape (S : TP so le it so' sz it') (p0 p1 p2 : Int32) : ∃ r so1 le1 it1 so2 sz2 it2, TP so1 le1 it1 so2 sz2 it2 ∧ f_X6_tape p0 p1 p2 so le it = some (r, so1, le1, it1) ∧ f_X7_tape p0 p1 p2 so' sz it' = some (r, so2, sz2, it2) := by
  unfold f_X6_tape f_X7_tape
  rw [ta_7, show f_X7_isIn (Int32.toInt64 p1) (-1) 4 = f_X6_isWithin p1 (-1) 4 from ii_ p1 (-1) 4]
  by_cases q : f_X4_isThere p0 = 0
  · rw [if_pos q, if_pos q]
    exact ⟨_, _, _, _, _, _, _, S, rfl, rfl⟩
  · rw [if_neg q, if_neg q]
    obtain ⟨T, rfl, hT⟩ := th_ q
    by_cases q1 : p1 = -1
    · subst q1
      obtain ⟨it1, a1, a2, a3⟩ := be_ hT (L := 0) (by omega) (x := -1) (Or.inl rfl) so le it
      rw [if_pos rfl, show f_X4_become (nI T) (-1) 0 so le it = some (upd so T (-1), upd le T (nI 0), it1) from a3, ob_s]
      rw [if_neg (show ¬ (f_X6_isWithin (-1) (-1) 4 = 0 ∨ ¬ (-1 : Int32) = -1 ∧ ¬ p2 ≤ 60) from fun z => z.elim (by decide) (fun z => z.1 rfl)), if_neg (show ¬ (¬ (-1 : Int32) = -1 ∧ ¬ 0 ≤ p2) from fun z => z.1 rfl), wr_n hT (by omega), ob_s, if_neg (show ¬ ¬ (-1 : Int32) = -1 from fun z => z rfl), wr_n hT (by omega), ob_s]
      obtain ⟨it2, b1, b2, b3⟩ := tp_75 hT (fun x => some (1, upd so' T (-1), upd sz T 0, x)) it'
      rw [b3]
      exact ⟨_, _, _, _, _, _, _, tp_n S hT (L := 0) (by omega) (Or.inl rfl) (fun _ => rfl) a1 a2 b1 b2, rfl, rfl⟩
    · have w : f_X6_isWithin p1 (-1) 4 = 0 ↔ f_X6_isWithin p1 0 4 = 0 := by
        rw [iw_0, iw_0]
        refine ⟨fun z => ?_, fun z => ?_⟩
        · rcases z with z | z
          · refine Or.inl ?_
            rw [Int32.lt_iff_toInt_lt] at z ⊢
            rw [show (-1 : Int32).toInt = -1 from by decide] at z
            rw [show (0 : Int32).toInt = 0 from by decide]
            omega
          · exact Or.inr z
        · rcases z with z | z
          · refine Or.inl ?_
            have n : p1.toInt ≠ (-1 : Int32).toInt := fun e => q1 (Int32.toInt_inj.mp e)
            rw [Int32.lt_iff_toInt_lt] at z ⊢
            rw [show (-1 : Int32).toInt = -1 from by decide] at n ⊢
            rw [show (0 : Int32).toInt = 0 from by decide] at z
            omega
          · exact Or.inr z
      rw [if_neg q1]
      by_cases q2 : f_X6_isWithin p1 0 4 = 0 ∨ ¬ p2 ≤ 60
      · rw [if_pos q2, if_pos (q2.imp w.mpr (fun z => ⟨q1, z⟩))]
        exact ⟨_, _, _, _, _, _, _, S, rfl, rfl⟩
      · rw [if_neg q2, if_neg (show ¬ (f_X6_isWithin p1 (-1) 4 = 0 ∨ ¬ p1 = -1 ∧ ¬ p2 ≤ 60) from fun z => q2 (z.imp w.mp (fun z => z.2)))]
        by_cases q3 : (0 : Int32) ≤ p2
        · rw [if_pos q3, if_neg (show ¬ (¬ p1 = -1 ∧ ¬ 0 ≤ p2) from fun z => z.2 q3), wr_n hT (by omega), ob_s, if_pos q1, wr_n hT (by omega), ob_s]
          obtain ⟨k, rfl, _, hk⟩ := iw_n (a := 0) (b := 4) (fun z => q2 (Or.inl z)) (by omega) (by omega)
          have q4 : p2 ≤ 60 := Decidable.byContradiction (fun z => q2 (Or.inr z))
          obtain ⟨L, hL, rfl⟩ := nI_of (x := p2) (fun z => by
            rw [Int32.lt_iff_toInt_lt] at z
            rw [Int32.le_iff_toInt_le] at q3
            omega)
          rw [zl_60, nI_leI hL (by omega)] at q4
          obtain ⟨it1, a1, a2, a3⟩ := be_ hT q4 (x := nI k) (Or.inr ⟨k, hk, rfl⟩) so le it
          obtain ⟨it2, b1, b2, b3⟩ := tp_75 hT (fun x => some (1, upd so' T (nI k), upd sz T (nI L), x)) it'
          rw [a3, b3, ob_s]
          exact ⟨_, _, _, _, _, _, _, tp_n S hT q4 (Or.inr ⟨k, hk, rfl⟩) (fun z => absurd z q1) a1 a2 b1 b2, rfl, rfl⟩
        · rw [if_neg q3, if_pos (show ¬ p1 = -1 ∧ ¬ 0 ≤ p2 from ⟨q1, q3⟩)]
          exact ⟨_, _, _, _, _, _, _, S, rfl, rfl⟩
/-! items moved -/
theorem sb_i {L i : Nat} (hL : L ≤ 60) (hi : i < 2 ^ 31) : (nI L - nI i).toInt = (L : Int) - i := by
  rw [Int32.toInt_sub, nI_toInt (by omega), nI_toInt hi]
  exact Int.bmod_eq_of_le (by omega) (by omega)
theorem sb_lt {L i n : Nat} (hL : L ≤ 60) (hi : i < 2 ^ 31) (hn : n < 2 ^ 31) : nI L - nI i < nI n ↔ L < i + n := by
  rw [Int32.lt_iff_toInt_lt, sb_i hL hi, nI_toInt hn]
  omega
theorem sb_le {L i n : Nat} (hL : L ≤ 60) (hi : i < 2 ^ 31) (hn : n < 2 ^ 31) : nI n ≤ nI L - nI i ↔ i + n ≤ L := by
  rw [Int32.le_iff_toInt_le, sb_i hL hi, nI_toInt hn]
  omega
def MV (S D n : Nat) (x y : Nat → Int64) : Prop := (∀ k, k < n → y (D + k) = x (S + k)) ∧ ∀ j, (j < D ∨ D + n ≤ j) → y j = x j
theorem sh_104 {T U i j n : Nat} (hT : T < 6) (hU : U < 6) (hi : i + n ≤ 60) (hj : j + n ≤ 60) (k : (Nat → Int64) → Option (Int32 × (Nat → Int64))) (x : Nat → Int64) : ∃ y, MV (60 * T + i) (60 * U + j) n x y ∧ f_X7_shift_L104 k (nI T) (nI i) (nI U) (nI j) (nI n) 5000 0 x = k y := by
  by_cases d : i ≤ j
  · refine lp_ (σ := Nat → Int64) (fun u e s => f_X7_shift_L104 k (nI T) (nI i) (nI U) (nI j) (nI n) u (nI e) s) (fun e s => (∀ k, n - e ≤ k → k < n → s (60 * U + j + k) = x (60 * T + i + k)) ∧ ∀ z, (z < 60 * U + j + (n - e) ∨ 60 * U + j + n ≤ z) → s z = x z) n (fun o => ∃ y, MV (60 * T + i) (60 * U + j) n x y ∧ o = k y) ?_ ?_ n 0 5000 x (by omega) (by omega) ⟨fun k h1 h2 => by omega, fun z _ => rfl⟩
    · intro u e s he hI
      refine Or.inr ⟨vp_updL s (60 * U + j + (n - 1 - e)) (s (60 * T + i + (n - 1 - e))), ⟨fun k h1 h2 => ?_, fun z hz => ?_⟩, ?_⟩
      · by_cases q : k = n - 1 - e
        · rw [q, pk_uLs]
          exact hI.2 _ (by omega)
        · rw [pk_uLn (by omega)]
          exact hI.1 k (by omega) h2
      · rw [pk_uLn (by omega)]
        exact hI.2 z (by omega)
      · show f_X7_shift_L104 _ _ _ _ _ _ (u + 1) (nI e) s = f_X7_shift_L104 _ _ _ _ _ _ u (nI (e + 1)) _
        rw [f_X7_shift_L104_s, if_neg (le_f (by omega) (by omega)), if_pos (le_t d (by omega)), qn_s, zl_1, pk_sub (show 1 ≤ n by omega), pk_sub (show e ≤ n - 1 by omega), zl_60, pk_mul, nI_add, nI_add, rd_n (by omega) (by omega), ob_s, pk_mul, nI_add, nI_add, wrL_n (by omega) (by omega), ob_s, nI_add]
    · intro u s hI
      refine ⟨s, ⟨fun k hk => hI.1 k (by omega) hk, fun z hz => hI.2 z (by omega)⟩, ?_⟩
      show f_X7_shift_L104 _ _ _ _ _ _ (u + 1) (nI n) s = _
      rw [f_X7_shift_L104_s, if_pos (le_t (by omega) (by omega))]
  · refine lp_ (σ := Nat → Int64) (fun u e s => f_X7_shift_L104 k (nI T) (nI i) (nI U) (nI j) (nI n) u (nI e) s) (fun e s => (∀ k, k < e → s (60 * U + j + k) = x (60 * T + i + k)) ∧ ∀ z, (z < 60 * U + j ∨ 60 * U + j + e ≤ z) → s z = x z) n (fun o => ∃ y, MV (60 * T + i) (60 * U + j) n x y ∧ o = k y) ?_ ?_ n 0 5000 x (by omega) (by omega) ⟨fun k h1 => by omega, fun z _ => rfl⟩
    · intro u e s he hI
      refine Or.inr ⟨vp_updL s (60 * U + j + e) (s (60 * T + i + e)), ⟨fun k h1 => ?_, fun z hz => ?_⟩, ?_⟩
      · by_cases q : k = e
        · rw [q, pk_uLs]
          exact hI.2 _ (by omega)
        · rw [pk_uLn (by omega)]
          exact hI.1 k (by omega)
      · rw [pk_uLn (by omega)]
        exact hI.2 z (by omega)
      · show f_X7_shift_L104 _ _ _ _ _ _ (u + 1) (nI e) s = f_X7_shift_L104 _ _ _ _ _ _ u (nI (e + 1)) _
        rw [f_X7_shift_L104_s, if_neg (le_f (by omega) (by omega)), if_neg (le_f (by omega) (by omega)), qn_s, zl_60, pk_mul, nI_add, nI_add, rd_n (by omega) (by omega), ob_s, pk_mul, nI_add, nI_add, wrL_n (by omega) (by omega), ob_s, nI_1]
    · intro u s hI
      refine ⟨s, ⟨fun k hk => hI.1 k hk, fun z hz => hI.2 z hz⟩, ?_⟩
      show f_X7_shift_L104 _ _ _ _ _ _ (u + 1) (nI n) s = _
      rw [f_X7_shift_L104_s, if_pos (le_t (by omega) (by omega))]
theorem pm_shift (S : TP so le it so' sz it') (p0 p1 p2 p3 p4 : Int32) : ∃ r it1 it1', TP so le it1 so' sz it1' ∧ f_X6_shift p0 p1 p2 p3 p4 so le it = some (r, it1) ∧ f_X7_shift p0 p1 p2 p3 p4 so' sz it' = some (r, it1') := by
  unfold f_X6_shift f_X7_shift
  rw [ta_7, ta_7]
  by_cases q : f_X4_isThere p0 = 0 ∨ f_X4_isThere p2 = 0
  · rw [if_pos q, if_pos q]
    exact ⟨_, _, _, S, rfl, rfl⟩
  · rw [if_neg q, if_neg q]
    obtain ⟨T, rfl, hT⟩ := th_ (fun z => q (Or.inl z))
    obtain ⟨U, rfl, hU⟩ := th_ (fun z => q (Or.inr z))
    obtain ⟨s1, s2, L, s3, s4, s5, s6, s7⟩ := S T hT
    obtain ⟨u1, u2, K, u3, u4, u5, u6, u7⟩ := S U hU
    rw [so_ hT, so_ hU, ob_s, ob_s, ob_s, ob_s, rd_n hT (by omega), rd_n hU (by omega), ob_s, ob_s, ob_s, ob_s, s1, u1]
    by_cases q2 : so' T = -1
    · rw [if_pos q2, if_pos q2]
      exact ⟨_, _, _, S, rfl, rfl⟩
    rw [if_neg q2, if_neg q2]
    by_cases q3 : so' U = -1
    · rw [if_pos q3, if_pos q3]
      exact ⟨_, _, _, S, rfl, rfl⟩
    rw [if_neg q3, if_neg q3]
    by_cases q4 : so' T = so' U
    · rw [if_pos q4, if_pos q4, hr_ hT, hr_ hU, ob_s, ob_s, s4, u4, rd_n hT (by omega), rd_n hU (by omega), ob_s, ob_s, s5, u5]
      by_cases q5 : ¬ p4 < 0 ∧ ¬ p1 < 0 ∧ ¬ p3 < 0
      · obtain ⟨n, hn, rfl⟩ := nI_of q5.1
        obtain ⟨i, hi, rfl⟩ := nI_of q5.2.1
        obtain ⟨j, hj, rfl⟩ := nI_of q5.2.2
        rw [if_pos q5]
        by_cases q6 : L < i + n
        · rw [if_pos ((sb_lt s3 hi hn).mpr q6), if_neg (show ¬ (¬ nI n < 0 ∧ ¬ nI i < 0 ∧ ¬ (nI L - nI n < nI i)) from fun z => z.2.2 ((sb_lt s3 hn hi).mpr (by omega))), if_pos rfl]
          exact ⟨_, _, _, S, rfl, rfl⟩
        · rw [if_neg (fun z => q6 ((sb_lt s3 hi hn).mp z)), if_pos (show ¬ nI n < 0 ∧ ¬ nI i < 0 ∧ ¬ (nI L - nI n < nI i) from ⟨q5.1, q5.2.1, fun z => q6 (by have := (sb_lt s3 hn hi).mp z; omega)⟩), if_neg (show ¬ (1 : Int32) = 0 by decide)]
          by_cases q7 : j + n ≤ K
          · rw [if_pos ((sb_le u3 hj hn).mpr q7), if_pos (show ¬ nI n < 0 ∧ ¬ nI j < 0 ∧ ¬ (nI K - nI n < nI j) from ⟨q5.1, q5.2.2, fun z => by have := (sb_lt u3 hn hj).mp z; omega⟩), if_neg (show ¬ (1 : Int32) = 0 by decide)]
            obtain ⟨y, m1, m2⟩ := sh_104 hT hU (i := i) (j := j) (n := n) (by omega) (by omega) (fun x => some (nI n, x)) it'
            rw [m2]
            have mv : f_X4_move (nI T) (nI i) (nI U) (nI j) (nI n) le it = some (va_cpy it it (60 * T + i) (60 * U + j) n) := by
              unfold f_X4_move
              rw [hr_ hT, hr_ hU, s4, u4, if_pos (show ¬ nI n < 0 ∧ ¬ nI i < 0 ∧ ¬ (nI L - nI n < nI i) from ⟨q5.1, q5.2.1, fun z => q6 (by have := (sb_lt s3 hn hi).mp z; omega)⟩), if_pos (show ¬ nI n < 0 ∧ ¬ nI j < 0 ∧ ¬ (nI K - nI n < nI j) from ⟨q5.1, q5.2.2, fun z => by have := (sb_lt u3 hn hj).mp z; omega⟩), ob_s, ob_s, if_neg (show ¬ (1 : Int32) = 0 by decide), if_neg (show ¬ (1 : Int32) = 0 by decide)]
              rw [zl_60, pk_mul, pk_mul, nI_add, nI_add, zo_, pk_sub (by omega), zl_0, if_pos ⟨nI_nlt (by omega) (by omega), nI_nlt (by omega) (by omega), nI_nlt (by omega) (by omega), nI_nlt (by omega) (by omega)⟩]
              unfold cpL_
              rw [zl_0, nI_clamp (by omega), nI_clamp (by omega), nI_clamp (by omega), if_pos ⟨nI_nlt (by omega) (by omega), nI_nlt (by omega) (by omega), nI_nlt (by omega) (by omega), by omega, by omega⟩, ob_s]
            rw [mv, ob_s]
            refine ⟨_, _, _, fun X hX => ?_, rfl, rfl⟩
            obtain ⟨x1, x2, L', x3, x4, x5, x6, x7⟩ := S X hX
            refine ⟨x1, x2, L', x3, x4, x5, x6, fun z hz => ?_⟩
            by_cases w : 60 * U + j ≤ 60 * X + z ∧ 60 * X + z < 60 * U + j + n
            · rw [pk_cpy_in w.1 w.2]
              have e : 60 * X + z = 60 * U + j + (60 * X + z - (60 * U + j)) := by omega
              have m3 := m1.1 (60 * X + z - (60 * U + j)) (by omega)
              rw [← e] at m3
              rw [m3, show 60 * T + i + (60 * X + z - (60 * U + j)) = 60 * T + (i + (60 * X + z - (60 * U + j))) by omega]
              exact s7 _ (by omega)
            · rw [pk_cpy_out (by omega), m1.2 _ (by omega)]
              exact x7 z hz
          · rw [if_neg (fun z => q7 ((sb_le u3 hj hn).mp z)), if_neg (show ¬ (¬ nI n < 0 ∧ ¬ nI j < 0 ∧ ¬ (nI K - nI n < nI j)) from fun z => z.2.2 ((sb_lt u3 hn hj).mpr (by omega))), if_pos rfl]
            exact ⟨_, _, _, S, rfl, rfl⟩
      · rw [if_neg q5]
        refine ⟨-13, it, it', S, ?_, rfl⟩
        by_cases z1 : ¬ p4 < 0 ∧ ¬ p1 < 0 ∧ ¬ (nI L - p4 < p1)
        · rw [if_pos z1, if_neg (show ¬ (1 : Int32) = 0 by decide), if_neg (show ¬ (¬ p4 < 0 ∧ ¬ p3 < 0 ∧ ¬ (nI K - p4 < p3)) from fun z => q5 ⟨z1.1, z1.2.1, z.2.1⟩), if_pos rfl]
        · rw [if_neg z1, if_pos rfl]
    · rw [if_neg q4, if_neg q4]
      exact ⟨_, _, _, S, rfl, rfl⟩
end TAPES
/-! a tape judged -/
section JUDGE
variable {so le so' sz : Nat → Int32} {it it' : Nat → Int64}
variable {mn : Nat → Int32} {ms : Int32} {sn : Nat → Int32} {ss : Int32} {en : Nat → Int32} {es : Int32} {bk : Nat → Int32} {bs p e M wr wp : Int32} {g : Nat → Int32} {h : Nat → Int32} {t : TR}
theorem pm_judge (S : SX mn ms sn ss en es bk bs p e M wr wp g) (H : HT h) (O : OK t) (Y : TP so le it so' sz it') (p0 p1 p2 : Int32) : ∃ r t', OK t' ∧ f_X6_judge p0 p1 p2 h M so le it = some r ∧ f_X7_judge p0 p1 p2 g t.1 t.2 so' sz it' = some (r, t'.1, t'.2) := by
  obtain ⟨P, E, a, b, c, d, W0, W1, h1, h2, h3, h4, h5, h6, h7, rfl, rfl, rfl, rfl, rfl, rfl, rfl, rfl, rfl⟩ := S
  have s : SET P E h g := ⟨h1, h2, H⟩
  unfold f_X6_judge f_X7_judge
  rw [ro_7, ta_7]
  by_cases q : f_X6_isRow p0 = 0 ∨ f_X4_isThere p1 = 0
  · rw [if_pos q, if_pos q]
    exact ⟨_, t, O, rfl, rfl⟩
  rw [if_neg q, if_neg q]
  obtain ⟨r, rfl, hr⟩ := ro_n (fun z => q (Or.inl z))
  obtain ⟨T, rfl, hT⟩ := th_ (fun z => q (Or.inr z))
  obtain ⟨s1, s2, L, s3, s4, s5, s6, s7⟩ := Y T hT
  rw [so_ hT, ob_s, rd_n hT (by omega), ob_s, ob_s, s1]
  have neg : p2 < 0 → f_X7_judge_L42 (fun x y => some (-5, x, y)) (nI r) (nI T) p2 g sz it' 5000 0 t.1 t.2 = some (200, t.1, t.2) := by
    intro z
    rw [show (5000 : Nat) = 4999 + 1 from rfl, f_X7_judge_L42_s, if_neg (show ¬ nI r < 0 from nI_pos (by omega)), if_pos z]
    rfl
  have big : ¬ p2 < 0 → ¬ (0 : Int32) < nI L - p2 → f_X7_judge_L42 (fun x y => some (-5, x, y)) (nI r) (nI T) p2 g sz it' 5000 0 t.1 t.2 = some (200, t.1, t.2) := by
    intro z z2
    rw [show (5000 : Nat) = 4999 + 1 from rfl, f_X7_judge_L42_s, if_neg (show ¬ nI r < 0 from nI_pos (by omega)), if_neg z, rd_n hT (by omega), ob_s, s5, if_neg z2]
    rfl
  by_cases q2 : so' T = -1
  · rw [if_pos q2, if_pos q2]
    by_cases z : p2 < 0
    · exact ⟨_, t, O, rfl, neg z⟩
    · refine ⟨_, t, O, rfl, big z ?_⟩
      obtain ⟨i, hi, rfl⟩ := nI_of z
      rw [s6 q2, zl_0]
      intro z2
      rw [Int32.lt_iff_toInt_lt, sb_i (by omega) hi, nI_toInt (by omega)] at z2
      omega
  rw [if_neg q2, if_neg q2]
  by_cases q3 : so' T = 1
  · rw [if_pos q3, if_pos q3]
    by_cases z : p2 < 0
    · rw [if_neg (fun w => by
        rw [Int32.lt_iff_toInt_lt] at z
        rw [Int32.le_iff_toInt_le] at w
        omega)]
      exact ⟨_, t, O, rfl, neg z⟩
    · obtain ⟨i, hi, rfl⟩ := nI_of z
      rw [if_pos (nI_pos' hi), ln_ hT, ob_s, s4]
      by_cases z2 : i < L
      · have K : ∀ (n k f f' : Nat) (t : TR), k + n = r + 1 → n < f → n < f' → OK t → ∃ v t', OK t' ∧ f_X6_judge_L68 (some (-5)) (nI r) (nI T) (nI i) (nI L - nI i) h (nI (P ^ E)) le it f (nI k) = some v ∧ f_X7_judge_L42 (fun x y => some (-5, x, y)) (nI r) (nI T) (nI i) g sz it' f' (nI k) t.1 t.2 = some (v, t'.1, t'.2) := by
          intro n
          induction n with
          | zero =>
            intro k f f' t hk hf hf' O
            obtain ⟨f, rfl⟩ : ∃ g, f = g + 1 := ⟨f - 1, by omega⟩
            obtain ⟨f', rfl⟩ : ∃ g, f' = g + 1 := ⟨f' - 1, by omega⟩
            rw [f_X6_judge_L68_s, f_X7_judge_L42_s, if_pos (nI_lt (by omega) (by omega)), if_pos (nI_lt (by omega) (by omega))]
            exact ⟨_, t, O, rfl, rfl⟩
          | succ n ih =>
            intro k f f' t hk hf hf' O
            obtain ⟨f, rfl⟩ : ∃ g, f = g + 1 := ⟨f - 1, by omega⟩
            obtain ⟨f', rfl⟩ : ∃ g, f' = g + 1 := ⟨f' - 1, by omega⟩
            rw [f_X6_judge_L68_s, f_X7_judge_L42_s, if_neg (nI_nlt (by omega) (by omega)), if_neg (nI_nlt (by omega) (by omega)), if_neg (show ¬ nI i < 0 from z), rd_n hT (by omega), ob_s, s5, pk_sub (by omega)]
            by_cases z3 : k < L - i
            · obtain ⟨t', a1, b1⟩ := rm_7 h1 h2 O (nI r) (nI k)
              rw [if_pos (nI_lt z3 (by omega)), if_pos (nI_lt z3 (by omega)), nI_add, va_ hT s4 (by omega) s3, ob_s, s.r, ob_s, zl_60, pk_mul, nI_add, nI_add, rd_n (by omega) (by omega), ob_s, b1, ob_s, s7 _ (by omega), nI_1, Nat.add_assoc]
              by_cases z4 : lg_cmp (it' (60 * T + (i + k))) (Int32.toInt64 (RI (P ^ E) (nI r) (nI k))) = 0
              · rw [if_pos z4, if_pos z4, ← pk_sub (show i ≤ L by omega)]
                exact ih (k + 1) f f' t' (by omega) (by omega) (by omega) a1
              · rw [if_neg z4, if_neg z4]
                exact ⟨_, t', a1, rfl, rfl⟩
            · rw [if_neg (nI_nlt (by omega) (by omega)), if_neg (nI_nlt (by omega) (by omega))]
              exact ⟨_, t, O, rfl, rfl⟩
        exact K (r + 1) 0 5000 5000 t (by omega) (by omega) (by omega) O
      · have nz : ¬ (0 : Int32) < nI L - nI i := by
          intro w
          rw [Int32.lt_iff_toInt_lt, sb_i s3 hi, show (0 : Int32).toInt = 0 from by decide] at w
          omega
        refine ⟨200, t, O, ?_, big z nz⟩
        rw [show (5000 : Nat) = 4999 + 1 from rfl, f_X6_judge_L68_s, if_neg (show ¬ nI r < 0 from nI_pos (by omega)), if_neg nz]
        rfl
  · rw [if_neg q3, if_neg q3]
    exact ⟨_, t, O, rfl, rfl⟩
end JUDGE
