/-! events, books, and the calls that read -/
section CALLS
variable {mn : Nat → Int32} {ms : Int32} {sn : Nat → Int32} {ss : Int32} {en : Nat → Int32} {es : Int32} {bk : Nat → Int32} {bs p e M wr wp : Int32} {g : Nat → Int32} {h : Nat → Int32} {t : TR}
def evq (g : Nat → Int32) (k n : Int32) : Option (Int32 × (Nat → Int32)) := Option.bind (rd_ g 64 30) (fun g_10 => (Option.bind (wr_ g 64 (31 + (2 * g_10)) k) (fun w_11 => (Option.bind (rd_ w_11 64 30) (fun g_12 => (Option.bind (wr_ w_11 64 (32 + (2 * g_12)) n) (fun w_13 => (Option.bind (rd_ w_13 64 30) (fun g_14 => (Option.bind (wr_ w_13 64 30 (g_14 + 1)) (fun w_15 => (Option.bind (rd_ w_15 64 30) (fun g_16 => (some (g_16, w_15)))))))))))))))
def evb (g : Nat → Int32) (k n : Int32) : Option (Int32 × (Nat → Int32)) := Option.bind (rd_ g 64 30) (fun g_8 => (if (g_8 = 8) then (some (-4, g)) else evq g k n))
theorem ev_k (S : SX mn ms sn ss en es bk bs p e M wr wp g) {k lo hi : Nat} (hE : ∀ n, lo ≤ n → n ≤ hi → EV k n) (hh : hi ≤ 99 ∧ lo ≤ 99) (p1 : Int32) {o : Option (Int32 × (Nat → Int32))} (ho : o = if f_X6_isWithin p1 (nI lo) (nI hi) = 0 then some (-2, g) else evb g (nI k) p1) : ∃ r en' es' g', SX mn ms sn ss en' es' bk bs p e M wr wp g' ∧ Option.bind (f_X6_addEvent (nI k) p1 (nI lo) (nI hi) en es) (fun u_3 => (some (u_3.1, u_3.2.1, u_3.2.2))) = some (r, en', es') ∧ o = some (r, g') := by
  obtain ⟨P, E, a, b, c, d, W0, W1, h1, h2, h3, h4, h5, h6, h7, rfl, rfl, rfl, rfl, rfl, rfl, rfl, rfl, rfl⟩ := S
  rw [ho]
  unfold f_X6_addEvent
  by_cases q : f_X6_isWithin p1 (nI lo) (nI hi) = 0
  · rw [if_pos q, if_pos q]
    exact ⟨_, _, _, _, ⟨P, E, a, b, c, d, W0, W1, h1, h2, h3, h4, h5, h6, h7, rfl, rfl, rfl, rfl, rfl, rfl, rfl, rfl, rfl⟩, rfl, rfl⟩
  · rw [if_neg q, if_neg q]
    obtain ⟨n, rfl, l1, l2⟩ := iw_n q (by omega) (by omega)
    have K := ev_7 ⟨P, E, h1, h2⟩ h6 (hE n l1 l2)
    have lc := h6.1
    have eb : evb g (nI k) (nI n) = if nI c = 8 then some (-4, g) else evq g (nI k) (nI n) := by
      unfold evb
      rw [rg_30, ob_s, h6.2.1]
    rw [eb]
    by_cases q3 : c = 8
    · rw [K.1 q3, q3, if_pos (show nI 8 = 8 from rfl)]
      exact ⟨_, _, _, _, ⟨P, E, a, b, 8, d, W0, W1, h1, h2, h3, h4, h5, q3 ▸ h6, h7, rfl, rfl, rfl, rfl, rfl, rfl, rfl, rfl, rfl⟩, rfl, rfl⟩
    · obtain ⟨g', k1, k2, k3, k4⟩ := K.2 q3
      rw [k1, if_neg (show ¬ nI c = 8 from eq_f (b := 8) q3 (by omega) (by omega)), show evq g (nI k) (nI n) = some (nI (c + 1), g') from k2]
      exact ⟨_, up3 en c (nI k) (nI n) 0, _, g', ⟨P, E, a, b, c + 1, d, W0, W1, h1, h2.f (fun j _ => k3 j (by omega)), h3.f (fun j _ _ => k3 j (by omega)), h4.f (fun j _ _ => k3 j (by omega)), h5.f (fun j _ _ => k3 j (by omega)), k4, h7.f (fun j _ _ => k3 j (by omega)), rfl, rfl, rfl, rfl, rfl, rfl, rfl, rfl, rfl⟩, rfl, rfl⟩
theorem pm_event (S : SX mn ms sn ss en es bk bs p e M wr wp g) (p0 p1 : Int32) : ∃ r en' es' g', SX mn ms sn ss en' es' bk bs p e M wr wp g' ∧ f_X6_event p0 p1 en es = some (r, en', es') ∧ f_X7_event p0 p1 g = some (r, g') := by
  by_cases q0 : p0 = -1
  · unfold f_X6_event f_X7_event f_X1_empty
    rw [if_pos q0, if_pos q0, wg_30]
    obtain ⟨P, E, a, b, c, d, W0, W1, h1, h2, h3, h4, h5, h6, h7, rfl, rfl, rfl, rfl, rfl, rfl, rfl, rfl, rfl⟩ := S
    exact ⟨_, _, nI 0, _, ⟨P, E, a, b, 0, d, W0, W1, h1, h2.f (fun j _ => pk_un (by omega)), h3.f (fun j _ _ => pk_un (by omega)), h4.f (fun j _ _ => pk_un (by omega)), h5.f (fun j _ _ => pk_un (by omega)), ⟨by omega, pk_us, fun i hi => by omega⟩, h7.f (fun j _ _ => pk_un (by omega)), rfl, rfl, rfl, rfl, rfl, rfl, rfl, rfl, rfl⟩, rfl, rfl⟩
  · by_cases q : f_X6_isWithin p0 0 3 = 0
    · have n0 : ¬ p0 = 0 := fun z => by rw [z] at q; exact absurd q (by decide)
      have n1 : ¬ p0 = 1 := fun z => by rw [z] at q; exact absurd q (by decide)
      have n2 : ¬ p0 = 2 := fun z => by rw [z] at q; exact absurd q (by decide)
      have n3 : ¬ p0 = 3 := fun z => by rw [z] at q; exact absurd q (by decide)
      unfold f_X6_event f_X7_event
      rw [show f_X7_isIn (Int32.toInt64 p0) 0 3 = f_X6_isWithin p0 0 3 from ii_ p0 0 3, if_neg q0, if_neg q0, if_neg n0, if_neg n1, if_neg n2, if_neg n3, if_pos q]
      exact ⟨_, _, _, _, S, rfl, rfl⟩
    · obtain ⟨k, rfl, _, hk⟩ := iw_n (a := 0) (b := 3) q (by omega) (by omega)
      have e : k = 0 ∨ k = 1 ∨ k = 2 ∨ k = 3 := by omega
      rcases e with rfl | rfl | rfl | rfl
      · exact ev_k S (k := 0) (lo := 0) (hi := 0) (fun n _ _ => Or.inl ⟨rfl, by omega⟩) (by omega) p1 (o := f_X7_event (nI 0) p1 g) (by
          unfold f_X7_event
          rw [if_neg q0, show f_X7_isIn (Int32.toInt64 (nI 0)) 0 3 = f_X6_isWithin (nI 0) 0 3 from ii_ _ 0 3, if_neg q]
          rw [show f_X7_isIn (Int32.toInt64 p1) (if ¬ nI 0 = 1 then 0 else 1) (if nI 0 = 0 then 0 else if nI 0 = 1 then 4 else if nI 0 = 2 then 99 else 5) = f_X6_isWithin p1 (nI 0) (nI 0) from ii_ p1 0 0]
          rfl)
      · exact ev_k S (k := 1) (lo := 1) (hi := 4) (fun n _ _ => Or.inr (Or.inl ⟨rfl, by omega, by omega⟩)) (by omega) p1 (o := f_X7_event (nI 1) p1 g) (by
          unfold f_X7_event
          rw [if_neg q0, show f_X7_isIn (Int32.toInt64 (nI 1)) 0 3 = f_X6_isWithin (nI 1) 0 3 from ii_ _ 0 3, if_neg q]
          rw [show f_X7_isIn (Int32.toInt64 p1) (if ¬ nI 1 = 1 then 0 else 1) (if nI 1 = 0 then 0 else if nI 1 = 1 then 4 else if nI 1 = 2 then 99 else 5) = f_X6_isWithin p1 (nI 1) (nI 4) from ii_ p1 1 4]
          rfl)
      · exact ev_k S (k := 2) (lo := 0) (hi := 99) (fun n _ _ => Or.inr (Or.inr (Or.inl ⟨rfl, by omega⟩))) (by omega) p1 (o := f_X7_event (nI 2) p1 g) (by
          unfold f_X7_event
          rw [if_neg q0, show f_X7_isIn (Int32.toInt64 (nI 2)) 0 3 = f_X6_isWithin (nI 2) 0 3 from ii_ _ 0 3, if_neg q]
          rw [show f_X7_isIn (Int32.toInt64 p1) (if ¬ nI 2 = 1 then 0 else 1) (if nI 2 = 0 then 0 else if nI 2 = 1 then 4 else if nI 2 = 2 then 99 else 5) = f_X6_isWithin p1 (nI 0) (nI 99) from ii_ p1 0 99]
          rfl)
      · exact ev_k S (k := 3) (lo := 0) (hi := 5) (fun n _ _ => Or.inr (Or.inr (Or.inr ⟨rfl, by omega⟩))) (by omega) p1 (o := f_X7_event (nI 3) p1 g) (by
          unfold f_X7_event
          rw [if_neg q0, show f_X7_isIn (Int32.toInt64 (nI 3)) 0 3 = f_X6_isWithin (nI 3) 0 3 from ii_ _ 0 3, if_neg q]
          rw [show f_X7_isIn (Int32.toInt64 p1) (if ¬ nI 3 = 1 then 0 else 1) (if nI 3 = 0 then 0 else if nI 3 = 1 then 4 else if nI 3 = 2 then 99 else 5) = f_X6_isWithin p1 (nI 0) (nI 5) from ii_ p1 0 5]
          rfl)
theorem pm_book (S : SX mn ms sn ss en es bk bs p e M wr wp g) (p0 p1 : Int32) : ∃ r bk' bs' g', SX mn ms sn ss en es bk' bs' p e M wr wp g' ∧ f_X6_book p0 p1 bk bs = some (r, bk', bs') ∧ f_X7_book p0 p1 g = some (r, g') := by
  obtain ⟨P, E, a, b, c, d, W0, W1, h1, h2, h3, h4, h5, h6, h7, rfl, rfl, rfl, rfl, rfl, rfl, rfl, rfl, rfl⟩ := S
  unfold f_X6_book f_X7_book f_X1_empty
  rw [ro_7, show f_X7_isIn (Int32.toInt64 p1) 0 2400 = f_X6_isWithin p1 0 2400 from ii_ p1 0 2400]
  by_cases q0 : p0 = -1
  · rw [if_pos q0, if_pos q0, wg_47]
    exact ⟨_, _, nI 0, _, ⟨P, E, a, b, c, 0, W0, W1, h1, h2.f (fun j _ => pk_un (by omega)), h3.f (fun j _ _ => pk_un (by omega)), h4.f (fun j _ _ => pk_un (by omega)), h5.f (fun j _ _ => pk_un (by omega)), h6.f (fun j _ _ => pk_un (by omega)), ⟨by omega, pk_us, fun i hi => by omega⟩, rfl, rfl, rfl, rfl, rfl, rfl, rfl, rfl, rfl⟩, rfl, rfl⟩
  · rw [if_neg q0, if_neg q0]
    by_cases q : f_X6_isRow p0 = 0
    · rw [if_pos q, if_pos q]
      exact ⟨_, _, _, _, ⟨P, E, a, b, c, d, W0, W1, h1, h2, h3, h4, h5, h6, h7, rfl, rfl, rfl, rfl, rfl, rfl, rfl, rfl, rfl⟩, rfl, rfl⟩
    · rw [if_neg q, if_neg q]
      by_cases q2 : f_X6_isWithin p1 0 2400 = 0
      · rw [if_pos q2, if_pos q2]
        exact ⟨_, _, _, _, ⟨P, E, a, b, c, d, W0, W1, h1, h2, h3, h4, h5, h6, h7, rfl, rfl, rfl, rfl, rfl, rfl, rfl, rfl, rfl⟩, rfl, rfl⟩
      · rw [if_neg q2, if_neg q2, rg_47, ob_s, h7.2.1]
        have ld := h7.1
        by_cases q3 : d = 8
        · subst q3
          rw [la_f (a := 8) (n := 24) rfl (by omega) (by omega), if_pos (show nI 8 = 8 from rfl)]
          exact ⟨_, _, _, _, ⟨P, E, a, b, c, 8, W0, W1, h1, h2, h3, h4, h5, h6, h7, rfl, rfl, rfl, rfl, rfl, rfl, rfl, rfl, rfl⟩, rfl, rfl⟩
        · rw [la_a (by omega) (by omega), if_neg (show ¬ nI d = 8 from eq_f (b := 8) q3 (by omega) (by omega)), ob_s, ob_s, wc_48 (by omega), ob_s, rg_47, ob_s, pk_un (by omega), h7.2.1, wc_49 (by omega), ob_s, rg_47, ob_s, pk_un (by omega), pk_un (by omega), h7.2.1, nI_1, wg_47, ob_s, rg_47, ob_s, pk_us]
          refine ⟨_, up3 bk d p0 p1 0, _, _, ⟨P, E, a, b, c, d + 1, W0, W1, h1, h2.f (fun j _ => ?_), h3.f (fun j _ _ => ?_), h4.f (fun j _ _ => ?_), h5.f (fun j _ _ => ?_), h6.f (fun j _ _ => ?_), ⟨by omega, pk_us, fun i hi => ?_⟩, rfl, rfl, rfl, rfl, rfl, rfl, rfl, rfl, rfl⟩, rfl, rfl⟩
          · rw [pk_un (by omega), pk_un (by omega), pk_un (by omega)]
          · rw [pk_un (by omega), pk_un (by omega), pk_un (by omega)]
          · rw [pk_un (by omega), pk_un (by omega), pk_un (by omega)]
          · rw [pk_un (by omega), pk_un (by omega), pk_un (by omega)]
          · rw [pk_un (by omega), pk_un (by omega), pk_un (by omega)]
          · by_cases z : i = d
            · subst z
              rw [pk_un (by omega), pk_un (by omega), pk_us, pk_un (by omega), pk_us, u3_0, u3_1]
              exact ⟨rfl, rfl⟩
            · rw [pk_un (by omega), pk_un (by omega), pk_un (by omega), pk_un (by omega), pk_un (by omega), pk_un (by omega), u3_n (by omega), u3_n (by omega)]
              exact h7.2.2 i (by omega)
theorem pm_told (S : SX mn ms sn ss en es bk bs p e M wr wp g) (H : HT h) (O : OK t) (p0 : Int32) : ∃ r t', OK t' ∧ f_X6_told p0 h mn ms p e M wr wp = some r ∧ f_X7_told p0 g t.1 t.2 = some (r, t'.1, t'.2) := by
  obtain ⟨P, E, a, b, c, d, W0, W1, h1, h2, h3, h4, h5, h6, h7, rfl, rfl, rfl, rfl, rfl, rfl, rfl, rfl, rfl⟩ := S
  have s : SET P E h g := ⟨h1, h2, H⟩
  unfold f_X6_told f_X7_told
  by_cases q0 : p0 = 0
  · rw [if_pos q0, if_pos q0, rg_0, ob_s, h2.1]
    exact ⟨_, t, O, rfl, rfl⟩
  rw [if_neg q0, if_neg q0]
  by_cases q1 : p0 = 1
  · rw [if_pos q1, if_pos q1, rg_1, ob_s, h2.2]
    exact ⟨_, t, O, rfl, rfl⟩
  rw [if_neg q1, if_neg q1]
  by_cases q2 : p0 = 2
  · rw [if_pos q2, if_pos q2, mo_7 h1 h2, ob_s]
    exact ⟨_, t, O, rfl, rfl⟩
  rw [if_neg q2, if_neg q2]
  by_cases q3 : p0 = 3
  · rw [if_pos q3, if_pos q3, rg_4, ob_s, h4.2.1]
    exact ⟨_, t, O, rfl, rfl⟩
  rw [if_neg q3, if_neg q3]
  by_cases q4 : p0 = 4
  · rw [if_pos q4, if_pos q4, rg_2, ob_s, h3.2.2.1]
    exact ⟨_, t, O, rfl, rfl⟩
  rw [if_neg q4, if_neg q4]
  by_cases q5 : p0 = 5
  · rw [if_pos q5, if_pos q5, rg_3, ob_s, h3.2.2.2]
    exact ⟨_, t, O, rfl, rfl⟩
  rw [if_neg q5, if_neg q5]
  by_cases q6 : p0 = 6
  · obtain ⟨t', a1, b1⟩ := mw_7 s h4 O h3
    rw [if_pos q6, if_pos q6, mw_6 s h4 h3.1 h3.2.1, b1]
    exact ⟨_, t', a1, rfl, rfl⟩
  rw [if_neg q6, if_neg q6]
  exact ⟨_, t, O, rfl, rfl⟩
theorem m1_s {x : Int32} {a : Nat} (ha : a ≤ 100) (q : ¬ f_X6_isWithin x 0 (nI a - 1) = 0) : ∃ i, x = nI i ∧ i < a := by
  by_cases z : a = 0
  · subst z
    rw [iw_0] at q
    have h1 : ¬ x < 0 := fun z => q (Or.inl z)
    have h2 : ¬ nI 0 - 1 < x := fun z => q (Or.inr z)
    rw [Int32.lt_iff_toInt_lt] at h1 h2
    rw [show (0 : Int32).toInt = 0 from by decide] at h1
    rw [show (nI 0 - 1).toInt = -1 from by decide] at h2
    omega
  · obtain ⟨a', rfl⟩ : ∃ a', a = a' + 1 := ⟨a - 1, by omega⟩
    rw [nI_pred] at q
    obtain ⟨i, e, _, l⟩ := iw_n (a := 0) q (by omega) (by omega)
    exact ⟨i, e, by omega⟩
theorem m1_y {i a : Nat} (ha : a ≤ 100) (hi : i < a) : ¬ f_X6_isWithin (nI i) 0 (nI a - 1) = 0 := by
  obtain ⟨a', rfl⟩ : ∃ a', a = a' + 1 := ⟨a - 1, by omega⟩
  rw [nI_pred]
  exact iw_y (a := 0) (by omega) (by omega) (by omega)
theorem ii_m (x : Int32) {y : Int32} : f_X7_isIn (Int32.toInt64 x) 0 (Int32.toInt64 y) = f_X6_isWithin x 0 y := ii_ x 0 y
theorem pm_markOf (S : SX mn ms sn ss en es bk bs p e M wr wp g) (p0 p1 : Int32) : ∃ r, f_X6_markOf p0 p1 mn ms = some r ∧ f_X7_markOf p0 p1 g = some r := by
  obtain ⟨P, E, a, b, c, d, W0, W1, h1, h2, h3, h4, h5, h6, h7, rfl, rfl, rfl, rfl, rfl, rfl, rfl, rfl, rfl⟩ := S
  unfold f_X6_markOf f_X7_markOf
  have la := h4.1
  rw [rg_4, ob_s, h4.2.1, ii_m, show f_X7_isIn (Int32.toInt64 p1) 0 1 = f_X6_isWithin p1 0 1 from ii_ p1 0 1]
  by_cases q : f_X6_isWithin p0 0 (nI a - 1) = 0 ∨ f_X6_isWithin p1 0 1 = 0
  · rw [if_pos q, if_neg (fun z => q.elim z.1 z.2)]
    exact ⟨_, rfl, rfl⟩
  · rw [if_neg q, if_pos ⟨fun z => q (Or.inl z), fun z => q (Or.inr z)⟩]
    obtain ⟨i, rfl, hi⟩ := m1_s (by omega) (fun z => q (Or.inl z))
    obtain ⟨j, rfl, _, hj⟩ := iw_n (a := 0) (b := 1) (fun z => q (Or.inr z)) (by omega) (by omega)
    rw [nu_ hi (by omega) (by omega) (by omega) (by omega), ob_s, zl_5, zl_2, pk_mul, nI_add, nI_add, rd_n (by omega) (by omega), ob_s]
    refine ⟨_, rfl, ?_⟩
    have e : j = 0 ∨ j = 1 := by omega
    rcases e with rfl | rfl
    · rw [Nat.add_zero, Nat.add_zero, (h4.2.2 i hi).1]
    · rw [show 5 + 2 * i + 1 = 6 + 2 * i by omega, (h4.2.2 i hi).2.1]
theorem pm_at (S : SX mn ms sn ss en es bk bs p e M wr wp g) (H : HT h) (O : OK t) (p0 p1 : Int32) : ∃ r t', OK t' ∧ f_X6_at p0 p1 h M = some r ∧ f_X7_at p0 p1 g t.1 t.2 = some (r, t'.1, t'.2) := by
  obtain ⟨P, E, a, b, c, d, W0, W1, h1, h2, h3, h4, h5, h6, h7, rfl, rfl, rfl, rfl, rfl, rfl, rfl, rfl, rfl⟩ := S
  have s : SET P E h g := ⟨h1, h2, H⟩
  unfold f_X6_at f_X7_at
  rw [ro_7]
  by_cases q : f_X6_isRow p0 = 0
  · rw [if_pos q, if_pos q]
    exact ⟨_, t, O, rfl, rfl⟩
  · obtain ⟨t', a1, b1⟩ := rm_7 h1 h2 O p0 p1
    rw [if_neg q, if_neg q, s.r, b1]
    exact ⟨_, t', a1, rfl, rfl⟩
theorem pm_rule (S : SX mn ms sn ss en es bk bs p e M wr wp g) (H : HT h) (O : OK t) (p0 p1 p2 : Int32) : ∃ r t', OK t' ∧ f_X6_rule p0 p1 p2 h p M = some r ∧ f_X7_rule p0 p1 p2 g t.1 t.2 = some (r, t'.1, t'.2) := by
  obtain ⟨P, E, a, b, c, d, W0, W1, h1, h2, h3, h4, h5, h6, h7, rfl, rfl, rfl, rfl, rfl, rfl, rfl, rfl, rfl⟩ := S
  have s : SET P E h g := ⟨h1, h2, H⟩
  unfold f_X6_rule f_X7_rule
  rw [ki_7, pl_7]
  by_cases q : f_X6_isWithin p0 0 4 = 0 ∨ f_X6_isPlace p1 p2 = 0
  · rw [if_pos q, if_neg (fun z => q.elim z.1 z.2)]
    exact ⟨_, t, O, rfl, rfl⟩
  · rw [if_neg q, if_pos ⟨fun z => q (Or.inl z), fun z => q (Or.inr z)⟩]
    obtain ⟨k, rfl, _, hk⟩ := iw_n (a := 0) (b := 4) (fun z => q (Or.inl z)) (by omega) (by omega)
    obtain ⟨r, c, rfl, rfl, hr, hc⟩ := pl_n (fun z => q (Or.inr z))
    obtain ⟨a0, t', a1, b1⟩ := tv_ s O hk hr hc
    rw [a0, b1]
    exact ⟨_, t', a1, rfl, rfl⟩
theorem pm_marked (S : SX mn ms sn ss en es bk bs p e M wr wp g) (H : HT h) (O : OK t) (p0 p1 : Int32) : ∃ r t', OK t' ∧ f_X6_marked p0 p1 h mn ms p M = some r ∧ f_X7_marked p0 p1 g t.1 t.2 = some (r, t'.1, t'.2) := by
  obtain ⟨P, E, a, b, c, d, W0, W1, h1, h2, h3, h4, h5, h6, h7, rfl, rfl, rfl, rfl, rfl, rfl, rfl, rfl, rfl⟩ := S
  have s : SET P E h g := ⟨h1, h2, H⟩
  unfold f_X6_marked f_X7_marked
  rw [pl_7]
  by_cases q : f_X6_isPlace p0 p1 = 0
  · rw [if_pos q, if_pos q]
    exact ⟨_, t, O, rfl, rfl⟩
  · rw [if_neg q, if_neg q]
    obtain ⟨r, c, rfl, rfl, hr, hc⟩ := pl_n q
    obtain ⟨t', a1, b1⟩ := im_7 s h4 O (r := r) (c := c) (by omega) (by omega)
    rw [im_6 s h4 (by omega) (by omega), b1]
    exact ⟨_, t', a1, rfl, rfl⟩
theorem pm_digit (S : SX mn ms sn ss en es bk bs p e M wr wp g) (p0 p1 : Int32) : ∃ r, f_X6_digit p0 p1 p = some r ∧ f_X7_digit p0 p1 g = some r := by
  obtain ⟨P, E, a, b, c, d, W0, W1, h1, h2, h3, h4, h5, h6, h7, rfl, rfl, rfl, rfl, rfl, rfl, rfl, rfl, rfl⟩ := S
  exact di_ h1 h2 p0 p1
theorem pm_pure (S : SX mn ms sn ss en es bk bs p e M wr wp g) (p0 p1 : Int32) : ∃ r, f_X6_pure p0 p1 p = some r ∧ f_X7_pure p0 p1 g = some r := by
  obtain ⟨P, E, a, b, c, d, W0, W1, h1, h2, h3, h4, h5, h6, h7, rfl, rfl, rfl, rfl, rfl, rfl, rfl, rfl, rfl⟩ := S
  exact pu_ h1 h2 p0 p1
theorem pm_counted (S : SX mn ms sn ss en es bk bs p e M wr wp g) (H : HT h) (O : OK t) (p0 p1 : Int32) : ∃ r t', OK t' ∧ f_X6_counted p0 p1 h M = some r ∧ f_X7_counted p0 p1 g t.1 t.2 = some (r, t'.1, t'.2) := by
  obtain ⟨P, E, a, b, c, d, W0, W1, h1, h2, h3, h4, h5, h6, h7, rfl, rfl, rfl, rfl, rfl, rfl, rfl, rfl, rfl⟩ := S
  have s : SET P E h g := ⟨h1, h2, H⟩
  unfold f_X6_counted f_X7_counted
  rw [ro_7]
  by_cases q : f_X6_isRow p0 = 0
  · rw [if_pos q, if_pos q]
    exact ⟨_, t, O, rfl, rfl⟩
  · obtain ⟨r, rfl, hr⟩ := ro_n q
    obtain ⟨t', a1, b1⟩ := co_7 s O hr p1
    rw [if_neg q, if_neg q, co_6 s hr, b1]
    exact ⟨_, t', a1, rfl, rfl⟩
theorem pm_row (S : SX mn ms sn ss en es bk bs p e M wr wp g) (H : HT h) (O : OK t) (p0 p1 : Int32) : ∃ r t', OK t' ∧ f_X6_row p0 p1 h p M = some r ∧ f_X7_row p0 p1 g t.1 t.2 = some (r, t'.1, t'.2) := by
  obtain ⟨P, E, a, b, c, d, W0, W1, h1, h2, h3, h4, h5, h6, h7, rfl, rfl, rfl, rfl, rfl, rfl, rfl, rfl, rfl⟩ := S
  have s : SET P E h g := ⟨h1, h2, H⟩
  have hm := h1.m
  unfold f_X6_row f_X7_row
  rw [ro_7, show f_X7_isIn (Int32.toInt64 p1) 0 3 = f_X6_isWithin p1 0 3 from ii_ p1 0 3]
  by_cases q : f_X6_isRow p0 = 0
  · rw [if_pos q, if_pos (Or.inl q)]
    exact ⟨_, t, O, rfl, rfl⟩
  · obtain ⟨r, rfl, hr⟩ := ro_n q
    rw [if_neg q]
    by_cases q2 : f_X6_isWithin p1 0 3 = 0
    · have n0 : ¬ p1 = 0 := fun z => by rw [z] at q2; exact absurd q2 (by decide)
      have n1 : ¬ p1 = 1 := fun z => by rw [z] at q2; exact absurd q2 (by decide)
      have n2 : ¬ p1 = 2 := fun z => by rw [z] at q2; exact absurd q2 (by decide)
      have n3 : ¬ p1 = 3 := fun z => by rw [z] at q2; exact absurd q2 (by decide)
      rw [if_pos (Or.inr q2), if_neg n0, if_neg n1, if_neg n2, if_neg n3]
      exact ⟨_, t, O, rfl, rfl⟩
    · rw [if_neg (show ¬ (f_X6_isRow (nI r) = 0 ∨ f_X6_isWithin p1 0 3 = 0) from fun z => z.elim q q2)]
      obtain ⟨k, rfl, _, hk⟩ := iw_n (a := 0) (b := 3) q2 (by omega) (by omega)
      have e : k = 0 ∨ k = 1 ∨ k = 2 ∨ k = 3 := by omega
      rcases e with rfl | rfl | rfl | rfl
      · rw [if_pos (show nI 0 = 0 from rfl), if_neg (show ¬ nI 0 = 2 by decide), kn_6 s hr]
        obtain ⟨t', a1, b1⟩ := rk_7 s O hr (w := 0) (by omega) (fun x3_46 x4_46 xc_o_triangle_46 xc_o_takenBy_46 => (f_X7_row_L116 (fun x6_116 => (qn_ (if (nI 0 = 0) then x3_46 else (if (nI 0 = 1) then x4_46 else x6_116)) (fun y_21 => (some (y_21, xc_o_triangle_46, xc_o_takenBy_46))))) (nI r) g 5000 0 0))
        refine ⟨_, t', a1, rfl, ?_⟩
        rw [b1, de_7 s hr]
        rfl
      · rw [if_neg (show ¬ nI 1 = 0 by decide), if_pos (show nI 1 = 1 from rfl), if_neg (show ¬ nI 1 = 2 by decide), us_6 s hr]
        obtain ⟨t', a1, b1⟩ := rk_7 s O hr (w := 1) (by omega) (fun x3_46 x4_46 xc_o_triangle_46 xc_o_takenBy_46 => (f_X7_row_L116 (fun x6_116 => (qn_ (if (nI 1 = 0) then x3_46 else (if (nI 1 = 1) then x4_46 else x6_116)) (fun y_21 => (some (y_21, xc_o_triangle_46, xc_o_takenBy_46))))) (nI r) g 5000 0 0))
        refine ⟨_, t', a1, rfl, ?_⟩
        rw [b1, de_7 s hr]
        rfl
      · obtain ⟨t', a1, b1⟩ := su_7 s O hr
        rw [if_neg (show ¬ nI 2 = 0 by decide), if_neg (show ¬ nI 2 = 1 by decide), if_pos (show nI 2 = 2 from rfl), if_pos (show nI 2 = 2 from rfl), su_6 s hr, b1]
        exact ⟨_, t', a1, rfl, rfl⟩
      · rw [if_neg (show ¬ nI 3 = 0 by decide), if_neg (show ¬ nI 3 = 1 by decide), if_neg (show ¬ nI 3 = 2 by decide), if_neg (show ¬ nI 3 = 2 by decide), if_pos (show nI 3 = 3 from rfl), de_6 s hr]
        refine ⟨_, t, O, rfl, ?_⟩
        rw [show (5000 : Nat) = 4999 + 1 from rfl, f_X7_row_L46_s, mo_7 h1 h2, ob_s, if_neg (fun z => z.2 (by decide)), ← show (5000 : Nat) = 4999 + 1 from rfl, de_7 s hr]
        rfl
theorem pm_kind (S : SX mn ms sn ss en es bk bs p e M wr wp g) (H : HT h) (O : OK t) (p0 p1 : Int32) : ∃ r t', OK t' ∧ f_X6_kind p0 p1 h M = some r ∧ f_X7_kind p0 p1 g t.1 t.2 = some (r, t'.1, t'.2) := by
  obtain ⟨P, E, a, b, c, d, W0, W1, h1, h2, h3, h4, h5, h6, h7, rfl, rfl, rfl, rfl, rfl, rfl, rfl, rfl, rfl⟩ := S
  have s : SET P E h g := ⟨h1, h2, H⟩
  unfold f_X6_kind f_X7_kind
  rw [ro_7]
  by_cases q : f_X6_isRow p0 = 0 ∨ ¬ 0 ≤ p1
  · rw [if_pos q, if_pos q]
    exact ⟨_, t, O, rfl, rfl⟩
  · rw [if_neg q, if_neg q]
    obtain ⟨r, rfl, hr⟩ := ro_n (fun z => q (Or.inl z))
    have q2 : (0 : Int32) ≤ p1 := Decidable.byContradiction (fun z => q (Or.inr z))
    obtain ⟨i, hi, rfl⟩ := nI_of (x := p1) (fun z => by
      rw [Int32.lt_iff_toInt_lt] at z
      rw [Int32.le_iff_toInt_le] at q2
      omega)
    obtain ⟨y, e1, k1⟩ := kd_6 s hr hi
    obtain ⟨y', t', a1, e2, k2⟩ := kd_7 s O hr hi
    rw [k2.u k1] at e2
    exact ⟨y, t', a1, e1, e2⟩
theorem pm_upTo (S : SX mn ms sn ss en es bk bs p e M wr wp g) (H : HT h) (O : OK t) (p0 p1 : Int32) : ∃ r t', OK t' ∧ f_X6_upTo p0 p1 h M = some r ∧ f_X7_upTo p0 p1 g t.1 t.2 = some (r, t'.1, t'.2) := by
  obtain ⟨P, E, a, b, c, d, W0, W1, h1, h2, h3, h4, h5, h6, h7, rfl, rfl, rfl, rfl, rfl, rfl, rfl, rfl, rfl⟩ := S
  have s : SET P E h g := ⟨h1, h2, H⟩
  unfold f_X6_upTo f_X7_upTo
  rw [ro_7, show f_X7_isIn (Int32.toInt64 p1) 0 2 = f_X6_isWithin p1 0 2 from ii_ p1 0 2]
  by_cases q : f_X6_isRow p0 = 0
  · rw [if_pos q, if_pos (Or.inl q)]
    exact ⟨_, t, O, rfl, rfl⟩
  · obtain ⟨r, rfl, hr⟩ := ro_n q
    rw [if_neg q]
    by_cases q2 : f_X6_isWithin p1 0 2 = 0
    · have n0 : ¬ p1 = 0 := fun z => by rw [z] at q2; exact absurd q2 (by decide)
      have n1 : ¬ p1 = 1 := fun z => by rw [z] at q2; exact absurd q2 (by decide)
      have n2 : ¬ p1 = 2 := fun z => by rw [z] at q2; exact absurd q2 (by decide)
      rw [if_pos (Or.inr q2), if_neg n0, if_neg n1, if_neg n2]
      exact ⟨_, t, O, rfl, rfl⟩
    · rw [if_neg (show ¬ (f_X6_isRow (nI r) = 0 ∨ f_X6_isWithin p1 0 2 = 0) from fun z => z.elim q q2)]
      obtain ⟨t', a1, b1⟩ := up_7 s O hr (fun x3_32 x4_32 x5_32 xc_o_triangle_32 xc_o_takenBy_32 => (qn_ (if (p1 = 0) then x3_32 else (if (p1 = 1) then x4_32 else x5_32)) (fun y_17 => (some (y_17, xc_o_triangle_32, xc_o_takenBy_32)))))
      rw [b1, qn_s]
      obtain ⟨k, rfl, _, hk⟩ := iw_n (a := 0) (b := 2) q2 (by omega) (by omega)
      have e : k = 0 ∨ k = 1 ∨ k = 2 := by omega
      rcases e with rfl | rfl | rfl
      · rw [if_pos (show nI 0 = 0 from rfl), if_pos (show nI 0 = 0 from rfl), fr_6 s hr]
        exact ⟨_, t', a1, rfl, rfl⟩
      · unfold f_X6_lastFullRow
        rw [if_neg (show ¬ nI 1 = 0 by decide), if_neg (show ¬ nI 1 = 0 by decide), if_pos (show nI 1 = 1 from rfl), if_pos (show nI 1 = 1 from rfl), lr_6 s r 5000 hr (by omega)]
        exact ⟨_, t', a1, rfl, rfl⟩
      · rw [if_neg (show ¬ nI 2 = 0 by decide), if_neg (show ¬ nI 2 = 0 by decide), if_neg (show ¬ nI 2 = 1 by decide), if_neg (show ¬ nI 2 = 1 by decide), if_pos (show nI 2 = 2 from rfl), hv_6 s hr]
        exact ⟨_, t', a1, rfl, rfl⟩
theorem pm_picture (S : SX mn ms sn ss en es bk bs p e M wr wp g) (H : HT h) (O : OK t) (p0 : Int32) : ∃ r t', OK t' ∧ f_X6_picture p0 h mn ms p M wr wp = some r ∧ f_X7_picture p0 g t.1 t.2 = some (r, t'.1, t'.2) := by
  obtain ⟨P, E, a, b, c, d, W0, W1, h1, h2, h3, h4, h5, h6, h7, rfl, rfl, rfl, rfl, rfl, rfl, rfl, rfl, rfl⟩ := S
  have s : SET P E h g := ⟨h1, h2, H⟩
  unfold f_X6_picture f_X7_picture
  rw [show f_X7_isIn (Int32.toInt64 p0) 0 7 = f_X6_isWithin p0 0 7 from ii_ p0 0 7]
  by_cases q : f_X6_isWithin p0 0 7 = 0
  · rw [if_pos q, if_pos q]
    exact ⟨_, t, O, rfl, rfl⟩
  · obtain ⟨i, rfl, _, hi⟩ := iw_n (a := 0) (b := 7) q (by omega) (by omega)
    obtain ⟨t', a1, b1⟩ := pr_7 s h4 O h3 hi
    rw [if_neg q, if_neg q, pr_6 s h4 h3.1 h3.2.1 hi, b1]
    exact ⟨_, t', a1, rfl, rfl⟩
theorem pm_like (S : SX mn ms sn ss en es bk bs p e M wr wp g) (H : HT h) (O : OK t) (p0 p1 p2 p3 p4 : Int32) : ∃ r t', OK t' ∧ f_X6_like p0 p1 p2 p3 p4 h M = some r ∧ f_X7_like p0 p1 p2 p3 p4 g t.1 t.2 = some (r, t'.1, t'.2) := by
  obtain ⟨P, E, a, b, c, d, W0, W1, h1, h2, h3, h4, h5, h6, h7, rfl, rfl, rfl, rfl, rfl, rfl, rfl, rfl, rfl⟩ := S
  have s : SET P E h g := ⟨h1, h2, H⟩
  unfold f_X6_like f_X7_like
  rw [ro_7, ro_7, ro_7, ro_7, show f_X7_isIn (Int32.toInt64 p4) 1 32 = f_X6_isWithin p4 1 32 from ii_ p4 1 32]
  by_cases q : f_X6_isRow p0 = 0 ∨ f_X6_isRow p1 = 0 ∨ f_X6_isRow p2 = 0 ∨ f_X6_isRow p3 = 0
  · rw [if_pos q, if_pos q]
    exact ⟨_, t, O, rfl, rfl⟩
  · rw [if_neg q, if_neg q]
    by_cases q2 : f_X6_isWithin p4 1 32 = 0
    · rw [if_pos q2, if_pos q2]
      exact ⟨_, t, O, rfl, rfl⟩
    · obtain ⟨n, rfl, _, hn⟩ := iw_n (a := 1) (b := 32) q2 (by omega) (by omega)
      obtain ⟨t', a1, b1⟩ := ak_7 s O hn (a := p0) (b := p1) (c := p2) (d := p3)
      rw [if_neg q2, if_neg q2, ak_6 s hn, b1]
      exact ⟨_, t', a1, rfl, rfl⟩
theorem pm_scaled (S : SX mn ms sn ss en es bk bs p e M wr wp g) (H : HT h) (O : OK t) (p0 p1 : Int32) : ∃ r t', OK t' ∧ f_X6_scaled p0 p1 h M = some r ∧ f_X7_scaled p0 p1 g t.1 t.2 = some (r, t'.1, t'.2) := by
  obtain ⟨P, E, a, b, c, d, W0, W1, h1, h2, h3, h4, h5, h6, h7, rfl, rfl, rfl, rfl, rfl, rfl, rfl, rfl, rfl⟩ := S
  have s : SET P E h g := ⟨h1, h2, H⟩
  unfold f_X6_scaled f_X7_scaled
  rw [show f_X7_isIn (Int32.toInt64 p0) 1 32 = f_X6_isWithin p0 1 32 from ii_ p0 1 32, show f_X7_isIn (Int32.toInt64 p1) 1 9 = f_X6_isWithin p1 1 9 from ii_ p1 1 9]
  by_cases q : f_X6_isWithin p0 1 32 = 0 ∨ f_X6_isWithin p1 1 9 = 0
  · rw [if_pos q, if_pos q]
    exact ⟨_, t, O, rfl, rfl⟩
  · obtain ⟨n, rfl, _, hn⟩ := iw_n (a := 1) (b := 32) (fun z => q (Or.inl z)) (by omega) (by omega)
    obtain ⟨t', a1, b1⟩ := ak_7 s O hn (a := 0) (b := 0) (c := p1 * nI n) (d := 0)
    rw [if_neg q, if_neg q, ak_6 s hn, b1]
    exact ⟨_, t', a1, rfl, rfl⟩
theorem pm_odds (S : SX mn ms sn ss en es bk bs p e M wr wp g) (H : HT h) (O : OK t) (p0 p1 p2 p3 : Int32) : ∃ r t', OK t' ∧ f_X6_odds p0 p1 p2 p3 h p M = some r ∧ f_X7_odds p0 p1 p2 p3 g t.1 t.2 = some (r, t'.1, t'.2) := by
  obtain ⟨P, E, a, b, c, d, W0, W1, h1, h2, h3, h4, h5, h6, h7, rfl, rfl, rfl, rfl, rfl, rfl, rfl, rfl, rfl⟩ := S
  exact od_ ⟨h1, h2, H⟩ O p0 p1 p2 p3
theorem pm_mean (S : SX mn ms sn ss en es bk bs p e M wr wp g) (H : HT h) (O : OK t) (p0 p1 : Int32) : ∃ r t', OK t' ∧ f_X6_mean p0 p1 h M = some r ∧ f_X7_mean p0 p1 g t.1 t.2 = some (r, t'.1, t'.2) := by
  obtain ⟨P, E, a, b, c, d, W0, W1, h1, h2, h3, h4, h5, h6, h7, rfl, rfl, rfl, rfl, rfl, rfl, rfl, rfl, rfl⟩ := S
  exact me_ ⟨h1, h2, H⟩ O p0 p1
theorem pm_count (S : SX mn ms sn ss en es bk bs p e M wr wp g) (p0 fd : Int32) : ∃ r, f_X6_count p0 ss es bs fd = some r ∧ f_X7_count p0 g fd = some r := by
  obtain ⟨P, E, a, b, c, d, W0, W1, h1, h2, h3, h4, h5, h6, h7, rfl, rfl, rfl, rfl, rfl, rfl, rfl, rfl, rfl⟩ := S
  unfold f_X6_count f_X7_count
  rw [rg_17, rg_30, rg_47, ob_s, ob_s, ob_s, h5.2.1, h6.2.1, h7.2.1]
  by_cases q0 : p0 = 0
  · rw [if_pos q0]
    exact ⟨_, rfl, rfl⟩
  rw [if_neg q0]
  by_cases q1 : p0 = 1
  · rw [if_pos q1]
    exact ⟨_, rfl, rfl⟩
  rw [if_neg q1]
  by_cases q2 : p0 = 2
  · rw [if_pos q2]
    exact ⟨_, rfl, rfl⟩
  rw [if_neg q2]
  by_cases q3 : p0 = 3
  · rw [if_pos q3]
    exact ⟨_, rfl, rfl⟩
  rw [if_neg q3]
  exact ⟨_, rfl, rfl⟩
/-! a book looked at; places seen -/
theorem pm_looked (S : SX mn ms sn ss en es bk bs p e M wr wp g) (H : HT h) (O : OK t) : ∃ r t', OK t' ∧ f_X6_looked h bk bs M = some r ∧ f_X7_looked g t.1 t.2 = some (r, t'.1, t'.2) := by
  obtain ⟨P, E, a, b, c, d, W0, W1, h1, h2, h3, h4, h5, h6, h7, rfl, rfl, rfl, rfl, rfl, rfl, rfl, rfl, rfl⟩ := S
  have s : SET P E h g := ⟨h1, h2, H⟩
  have ld := h7.1
  have L : ∀ (n i f f' : Nat) (t : TR), i + n = d → n < f → n < f' → OK t → ∃ r t', OK t' ∧ f_X6_looked_L2 (some (-5)) h bk (nI d) (nI (P ^ E)) f (nI i) = some r ∧ f_X7_looked_L2 (fun x y => some (-5, x, y)) g f' (nI i) t.1 t.2 = some (r, t'.1, t'.2) := by
    intro n
    induction n with
    | zero =>
      intro i f f' t hi hf hf' O
      obtain ⟨f, rfl⟩ : ∃ g, f = g + 1 := ⟨f - 1, by omega⟩
      obtain ⟨f', rfl⟩ : ∃ g, f' = g + 1 := ⟨f' - 1, by omega⟩
      rw [f_X6_looked_L2_s, f_X7_looked_L2_s, rg_47, ob_s, h7.2.1, if_pos (le_t (by omega) (by omega)), if_pos (le_t (by omega) (by omega))]
      exact ⟨_, t, O, rfl, rfl⟩
    | succ n ih =>
      intro i f f' t hi hf hf' O
      obtain ⟨f, rfl⟩ : ∃ g, f = g + 1 := ⟨f - 1, by omega⟩
      obtain ⟨f', rfl⟩ : ∃ g, f' = g + 1 := ⟨f' - 1, by omega⟩
      obtain ⟨t', a1, b1⟩ := rm_7 h1 h2 O (bk (3 * i)) 10
      have q := h7.2.2 i (by omega)
      rw [f_X6_looked_L2_s, f_X7_looked_L2_s, rg_47, ob_s, h7.2.1, if_neg (le_f (by omega) (by omega)), if_neg (le_f (by omega) (by omega))]
      rw [show f_X1_number (nI i) 0 24 bk (nI d) = some (bk (3 * i)) from nu_ (j := 0) (by omega) (by omega) (by omega) (by omega) (by omega), show f_X1_number (nI i) 1 24 bk (nI d) = some (bk (3 * i + 1)) from nu_ (j := 1) (by omega) (by omega) (by omega) (by omega) (by omega)]
      rw [ob_s, s.r, ob_s, ob_s, rc_48 (by omega), ob_s, q.1, b1, ob_s, rc_49 (by omega), ob_s, q.2, nI_1]
      by_cases z : RI (P ^ E) (bk (3 * i)) 10 = bk (3 * i + 1)
      · rw [if_pos z, if_pos z]
        exact ih (i + 1) f f' t' (by omega) (by omega) (by omega) a1
      · rw [if_neg z, if_neg z]
        exact ⟨_, t', a1, rfl, rfl⟩
  unfold f_X6_looked f_X7_looked
  exact L d 0 5000 5000 t (by omega) (by omega) (by omega) O
def sq (M : Nat) (sn : Nat → Int32) : Nat → Bool
  | 0 => true
  | i + 1 => sq M sn i && decide (RI M (sn (3 * i)) (sn (3 * i + 1)) = sn (3 * i + 2))
theorem sq_f {M : Nat} {sn : Nat → Int32} {i : Nat} (q : sq M sn i = false) : ∀ e, sq M sn (i + e) = false
  | 0 => q
  | e + 1 => by
    show (sq M sn (i + e) && _) = false
    rw [sq_f q e]
    rfl
theorem se_6 {P E b : Nat} (pe : PE P E) (H : HT h) (h5 : CS b sn g) : f_X6_isSeenBy (nI P) h sn (nI b) (nI E) = some (bI (sq (P ^ E) sn b)) := by
  have hm := pe.m
  have lb := h5.1
  unfold f_X6_isSeenBy
  rw [pw_0 pe, ob_s]
  refine lp_ (σ := Unit) (fun f i _ => f_X6_isSeenBy_L14 (some 1) (nI (P ^ E)) h sn (nI b) f (nI i)) (fun i _ => sq (P ^ E) sn i = true) b (fun o => o = some (bI (sq (P ^ E) sn b))) ?_ ?_ b 0 5000 () (by omega) (by omega) rfl
  · intro f i _ hi hI
    have st : f_X6_isSeenBy_L14 (some 1) (nI (P ^ E)) h sn (nI b) (f + 1) (nI i) = if RI (P ^ E) (sn (3 * i)) (sn (3 * i + 1)) = sn (3 * i + 2) then f_X6_isSeenBy_L14 (some 1) (nI (P ^ E)) h sn (nI b) f (nI (i + 1)) else some 0 := by
      rw [f_X6_isSeenBy_L14_s, if_neg (le_f (by omega) (by omega))]
      rw [show f_X1_number (nI i) 0 12 sn (nI b) = some (sn (3 * i)) from nu_ (j := 0) hi (by omega) (by omega) (by omega) (by omega), show f_X1_number (nI i) 1 12 sn (nI b) = some (sn (3 * i + 1)) from nu_ (j := 1) hi (by omega) (by omega) (by omega) (by omega), show f_X1_number (nI i) 2 12 sn (nI b) = some (sn (3 * i + 2)) from nu_ (j := 2) hi (by omega) (by omega) (by omega) (by omega)]
      rw [ob_s, ob_s, rm_5 ⟨by omega, by omega, hm.2.2.1⟩ H, ob_s, ob_s, nI_1]
    by_cases z : RI (P ^ E) (sn (3 * i)) (sn (3 * i + 1)) = sn (3 * i + 2)
    · refine Or.inr ⟨(), ?_, ?_⟩
      · show (sq (P ^ E) sn i && decide _) = true
        rw [hI, decide_eq_true z]
        rfl
      · show f_X6_isSeenBy_L14 _ _ _ _ _ (f + 1) (nI i) = _
        rw [st, if_pos z]
    · refine Or.inl ?_
      have e : sq (P ^ E) sn (i + 1) = false := by
        show (sq (P ^ E) sn i && decide _) = false
        rw [hI, decide_eq_false z]
        rfl
      have := sq_f e (b - (i + 1))
      rw [show i + 1 + (b - (i + 1)) = b by omega] at this
      show f_X6_isSeenBy_L14 _ _ _ _ _ (f + 1) (nI i) = _
      rw [st, if_neg z, this]
      rfl
  · intro f _ hI
    show f_X6_isSeenBy_L14 _ _ _ _ _ (f + 1) (nI b) = _
    rw [f_X6_isSeenBy_L14_s, if_pos (le_t (by omega) (by omega)), hI]
    rfl
theorem fi_40 {P E b : Nat} (pe : PE P E) (h5 : CS b sn g) {tri : Nat → Int32} (hT : ∀ r c, r < 128 → c ≤ r → tri (128 * r + c) = nI (bn r c % P ^ E)) (k : Int32 → Option (Int32 × (Nat → Int32) × Int32)) : f_X7_fits_L40 k tri g 5000 1 0 = k (bI (sq (P ^ E) sn b)) := by
  have lb := h5.1
  refine ld_ (fun f i => f_X7_fits_L40 k tri g f (bI (sq (P ^ E) sn i)) (nI i)) b _ ?_ ?_ b 0 5000 (by omega) (by omega)
  · intro f i hi
    obtain ⟨q1, q2, q3, r, c, hr, hc, q4, q5⟩ := h5.2.2 i hi
    show f_X7_fits_L40 _ _ _ (f + 1) _ (nI i) = f_X7_fits_L40 _ _ _ f (bI (sq (P ^ E) sn i && decide (RI (P ^ E) (sn (3 * i)) (sn (3 * i + 1)) = sn (3 * i + 2)))) (nI (i + 1))
    rw [f_X7_fits_L40_s, rg_17, ob_s, h5.2.1, if_neg (le_f (by omega) (by omega)), rs_0 (by omega), ob_s, rs_1 (by omega), ob_s, q1, q2, q4, q5, zl_128, pk_mul, nI_add, rd_n (by omega) (by omega), ob_s, rs_2 (by omega), ob_s, hT r c (by omega) hc, q3, RI_n hr (by omega), nI_1, bI_and]
  · intro f
    show f_X7_fits_L40 _ _ _ (f + 1) _ (nI b) = _
    rw [f_X7_fits_L40_s, rg_17, ob_s, h5.2.1, if_pos (le_t (by omega) (by omega))]
def pq (k : Nat) : Nat := if k = 0 then 2 else 2 * k + 1
def fb (E : Nat) (sn : Nat → Int32) (b : Nat) : Nat → Int32
  | 0 => 0
  | k + 1 => if sq (pq k ^ E) sn b then fb E sn b k ||| ((1 : Int32) <<< (nI k &&& 31)) else fb E sn b k
theorem pq_e {k E : Nat} (hk : k < 4) (h : 1 ≤ E ∧ E ≤ 4) : PE (pq k) E := by
  refine ⟨?_, h⟩
  have e : k = 0 ∨ k = 1 ∨ k = 2 ∨ k = 3 := by omega
  rcases e with rfl | rfl | rfl | rfl <;> decide
theorem pm_fits {S0 : Nat → Int32} (S : SX mn ms sn ss en es bk bs p e M wr wp g) (H : HT h) (O : OK t) (hS : S0 0 = 2 ∧ S0 1 = 3 ∧ S0 2 = 5 ∧ S0 3 = 7) : ∃ r t', OK t' ∧ f_X6_fits h sn ss e S0 = some r ∧ f_X7_fits g t.1 t.2 = some (r, t'.1, t'.2) := by
  obtain ⟨P, E, a, b, c, d, W0, W1, h1, h2, h3, h4, h5, h6, h7, rfl, rfl, rfl, rfl, rfl, rfl, rfl, rfl, rfl⟩ := S
  have c6 : f_X6_fits h sn (nI b) (nI E) S0 = some (fb E sn b 4) := by
    unfold f_X6_fits
    refine ld_ (fun f k => f_X6_fits_L4 (fun x => some x) h sn (nI b) (nI E) S0 f (fb E sn b k) (nI k)) 4 _ ?_ ?_ 4 0 5000 (by omega) (by omega)
    · intro f k hk
      have eS : S0 k = nI (pq k) := by
        have e : k = 0 ∨ k = 1 ∨ k = 2 ∨ k = 3 := by omega
        rcases e with rfl | rfl | rfl | rfl
        · exact hS.1
        · exact hS.2.1
        · exact hS.2.2.1
        · exact hS.2.2.2
      show f_X6_fits_L4 _ _ _ _ _ _ (f + 1) _ (nI k) = f_X6_fits_L4 _ _ _ _ _ _ f (if sq (pq k ^ E) sn b then _ else _) (nI (k + 1))
      rw [f_X6_fits_L4_s, zo_, if_neg (le_f (by omega) (by omega)), rd_n (by omega) (by omega), ob_s, eS, se_6 (pq_e hk h1.2) H h5, ob_s, qn_s, nI_1]
      cases sq (pq k ^ E) sn b <;> rfl
    · intro f
      show f_X6_fits_L4 _ _ _ _ _ _ (f + 1) _ (nI 4) = _
      rw [f_X6_fits_L4_s, zo_, if_pos (le_t (by omega) (by omega))]
  have c7 : ∃ t', OK t' ∧ f_X7_fits g t.1 t.2 = some (fb E sn b 4, t'.1, t'.2) := by
    unfold f_X7_fits
    refine ldt_ (τ := TR) OK (fun f k t => f_X7_fits_L4 (fun x y z => some (x, y, z)) g f (fb E sn b k) (nI k) t.1 t.2) 4 (fun o => ∃ t', OK t' ∧ o = some (fb E sn b 4, t'.1, t'.2)) ?_ ?_ 4 0 5000 t (by omega) (by omega) O
    · intro f k t hk O
      have pe := pq_e hk h1.2
      have hm := pe.m
      obtain ⟨tri', e1, e2⟩ := tk_7 (m := pq k ^ E) ⟨by omega, by omega⟩ O
      refine ⟨(tri', nI (pq k ^ E)), Or.inr ⟨_, rfl, by omega, by omega, e2⟩, ?_⟩
      have ek : (if ¬ nI k = 0 then 2 * nI k + 1 else 2) = nI (pq k) := by
        have e : k = 0 ∨ k = 1 ∨ k = 2 ∨ k = 3 := by omega
        rcases e with rfl | rfl | rfl | rfl <;> decide
      show f_X7_fits_L4 _ _ (f + 1) _ (nI k) t.1 t.2 = f_X7_fits_L4 _ _ f (if sq (pq k ^ E) sn b then _ else _) (nI (k + 1)) tri' (nI (pq k ^ E))
      rw [f_X7_fits_L4_s, if_neg (show ¬ (4 : Int32) ≤ nI k from le_f (a := 4) (by omega) (by omega)), qn_s, ek, rg_1, ob_s, h2.2, pw_7 pe, ob_s, e1, ob_s, fi_40 pe h5 e2, qn_s, nI_1]
      cases sq (pq k ^ E) sn b
      · rw [if_pos (show bI false = 0 from rfl), Int32.or_zero]
        rfl
      · rfl
    · intro f t O
      refine ⟨t, O, ?_⟩
      show f_X7_fits_L4 _ _ (f + 1) _ (nI 4) t.1 t.2 = _
      rw [f_X7_fits_L4_s, if_pos (show (4 : Int32) ≤ nI 4 from le_t (a := 4) (by omega) (by omega))]
  obtain ⟨t', a1, b1⟩ := c7
  exact ⟨_, t', a1, c6, b1⟩
end CALLS
