/-! copies, the image, events in thought -/
theorem cp_7 (u v : Nat → Int32) : ∃ w, f_X7_copies 64 64 u v = some w ∧ ∀ j, j < 64 → w j = u j := by
  unfold f_X7_copies
  refine lp_ (σ := Nat → Int32) (fun f i s => f_X7_copies_L2 (fun x => some x) 64 64 u f (nI i) s) (fun i s => ∀ j, j < i → s j = u j) 64 (fun o => ∃ w, o = some w ∧ ∀ j, j < 64 → w j = u j) ?_ ?_ 64 0 5000 v (by omega) (by omega) (fun j hj => by omega)
  · intro f i s hi hI
    refine Or.inr ⟨upd s i (u i), fun j hj => ?_, ?_⟩
    · by_cases z : j = i
      · rw [z, pk_us]
      · rw [pk_un z]
        exact hI j (by omega)
    · show f_X7_copies_L2 _ _ _ _ (f + 1) (nI i) s = f_X7_copies_L2 _ _ _ _ f (nI (i + 1)) _
      rw [f_X7_copies_L2_s, zl_64, if_neg (le_f (by omega) (by omega)), rd_n (by omega) (by omega), ob_s, wr_n (by omega) (by omega), ob_s, nI_1]
  · intro f s hI
    refine ⟨s, ?_, hI⟩
    show f_X7_copies_L2 _ _ _ _ (f + 1) (nI 64) s = _
    rw [f_X7_copies_L2_s, zl_64, if_pos (le_t (by omega) (by omega))]
theorem cf_1 {n : Nat} (hn : n ≤ 36) (x y : Nat → Int32) (a b : Int32) : f_X1_copyFrom n n x a y b = some (va_cpy y x 0 0 n, b) := by
  unfold f_X1_copyFrom cpI_
  rw [if_pos rfl, zo_, zl_0, nI_clamp (by omega), nI_clamp (by omega), if_pos ⟨nI_pos (by omega), nI_pos (by omega), nI_pos (by omega), by omega, by omega⟩, ob_s]
section COPIES
variable {mn : Nat → Int32} {ms : Int32} {sn : Nat → Int32} {ss : Int32} {en : Nat → Int32} {es : Int32} {bk : Nat → Int32} {bs p e M wr wp : Int32} {g : Nat → Int32} {h : Nat → Int32} {t : TR}
theorem cf_ (S : SX mn ms sn ss en es bk bs p e M wr wp g) (omn : Nat → Int32) (oms : Int32) (osn : Nat → Int32) (oss : Int32) (oen : Nat → Int32) (oes : Int32) (obk : Nat → Int32) (obs op oe oM owr owp : Int32) : f_X3_copyFrom omn oms osn oss oen oes obk obs op oe oM owr owp mn ms sn ss en es bk bs p e wr wp = some (va_cpy mn omn 0 0 18, ms, va_cpy sn osn 0 0 12, ss, va_cpy en oen 0 0 24, es, va_cpy bk obk 0 0 24, bs, p, e, M, wr, wp) := by
  obtain ⟨P, E, a, b, c, d, W0, W1, h1, h2, h3, h4, h5, h6, h7, rfl, rfl, rfl, rfl, rfl, rfl, rfl, rfl, rfl⟩ := S
  unfold f_X3_copyFrom f_X3_become
  rw [pw_0 h1, ob_s, ob_s, cf_1 (by omega), ob_s, cf_1 (by omega), ob_s, cf_1 (by omega), ob_s, cf_1 (by omega), ob_s]
theorem cy_ {f x : Nat → Int32} {n j : Nat} (h : j < n) : va_cpy f x 0 0 n j = f j := by
  rw [pk_cpy_in (by omega) (by omega)]
  exact congrArg f (by omega)
theorem SX.cp (S : SX mn ms sn ss en es bk bs p e M wr wp g) {g' : Nat → Int32} (q : ∀ j, j < 64 → g' j = g j) (omn osn oen obk : Nat → Int32) : SX (va_cpy mn omn 0 0 18) ms (va_cpy sn osn 0 0 12) ss (va_cpy en oen 0 0 24) es (va_cpy bk obk 0 0 24) bs p e M wr wp g' := by
  obtain ⟨P, E, a, b, c, d, W0, W1, h1, h2, h3, h4, h5, h6, h7, rfl, rfl, rfl, rfl, rfl, rfl, rfl, rfl, rfl⟩ := S
  have l4 := h4.1
  have l5 := h5.1
  have l6 := h6.1
  have l7 := h7.1
  exact ⟨P, E, a, b, c, d, W0, W1, h1, h2.f (fun j _ => q j (by omega)), h3.f (fun j _ _ => q j (by omega)), (h4.f (fun j _ _ => q j (by omega))).cc (fun j hj => cy_ (by omega)), (h5.f (fun j _ _ => q j (by omega))).cc (fun j hj => cy_ (by omega)), (h6.f (fun j _ _ => q j (by omega))).cc (fun j hj => cy_ (by omega)), (h7.f (fun j _ _ => q j (by omega))).cc (fun j hj => cy_ (by omega)), rfl, rfl, rfl, rfl, rfl, rfl, rfl, rfl, rfl⟩
theorem SX.fr (S : SX mn ms sn ss en es bk bs p e M wr wp g) {g' : Nat → Int32} (q : ∀ j, j < 64 → g' j = g j) : SX mn ms sn ss en es bk bs p e M wr wp g' := by
  obtain ⟨P, E, a, b, c, d, W0, W1, h1, h2, h3, h4, h5, h6, h7, h8⟩ := S
  exact ⟨P, E, a, b, c, d, W0, W1, h1, h2.f (fun j _ => q j (by omega)), h3.f (fun j _ _ => q j (by omega)), h4.f (fun j _ _ => q j (by omega)), h5.f (fun j _ _ => q j (by omega)), h6.f (fun j _ _ => q j (by omega)), h7.f (fun j _ _ => q j (by omega)), h8⟩
theorem SX.mo (S : SX mn ms sn ss en es bk bs p e M wr wp g) : f_X7_modulus g = some M := by
  obtain ⟨P, E, a, b, c, d, W0, W1, h1, h2, h3, h4, h5, h6, h7, rfl, rfl, rfl, rfl, rfl, rfl, rfl, rfl, rfl⟩ := S
  exact mo_7 h1 h2
def KX (hi : Int32) (mn : Nat → Int32) (ms : Int32) (sn : Nat → Int32) (ss : Int32) (en : Nat → Int32) (es : Int32) (bk : Nat → Int32) (bs p e M wr wp : Int32) (ik : Int32) (g : Nat → Int32) : Prop := (hi = 0 ∧ ik = 0) ∨ (hi = 1 ∧ ik = 1 ∧ SX mn ms sn ss en es bk bs p e M wr wp g)
theorem pm_image {kmn : Nat → Int32} {kms : Int32} {ksn : Nat → Int32} {kss : Int32} {ken : Nat → Int32} {kes : Int32} {kbk : Nat → Int32} {kbs kp ke kM kwr kwp hi ik : Int32} {kg : Nat → Int32} (S : SX mn ms sn ss en es bk bs p e M wr wp g) : ∃ r kmn' kms' ksn' kss' ken' kes' kbk' kbs' kp' ke' kM' kwr' kwp' hi' kg' ik', KX hi' kmn' kms' ksn' kss' ken' kes' kbk' kbs' kp' ke' kM' kwr' kwp' ik' kg' ∧ f_X6_image mn ms sn ss en es bk bs p e M wr wp kmn kms ksn kss ken kes kbk kbs kp ke kM kwr kwp hi = some (r, kmn', kms', ksn', kss', ken', kes', kbk', kbs', kp', ke', kM', kwr', kwp', hi') ∧ f_X7_image g kg ik = some (r, kg', ik') := by
  obtain ⟨w, w1, w2⟩ := cp_7 g kg
  unfold f_X6_image f_X7_image
  rw [cf_ S, ob_s, w1, ob_s, S.mo, ob_s]
  exact ⟨_, _, _, _, _, _, _, _, _, _, _, _, _, _, _, _, _, Or.inr ⟨rfl, rfl, S.cp w2 kmn ksn ken kbk⟩, rfl, rfl⟩
theorem pm_undo {kmn : Nat → Int32} {kms : Int32} {ksn : Nat → Int32} {kss : Int32} {ken : Nat → Int32} {kes : Int32} {kbk : Nat → Int32} {kbs kp ke kM kwr kwp hi ik : Int32} {kg : Nat → Int32} (S : SX mn ms sn ss en es bk bs p e M wr wp g) (K : KX hi kmn kms ksn kss ken kes kbk kbs kp ke kM kwr kwp ik kg) : ∃ r mn' ms' sn' ss' en' es' bk' bs' p' e' M' wr' wp' g', SX mn' ms' sn' ss' en' es' bk' bs' p' e' M' wr' wp' g' ∧ f_X6_undo mn ms sn ss en es bk bs p e M wr wp kmn kms ksn kss ken kes kbk kbs kp ke kwr kwp hi = some (r, mn', ms', sn', ss', en', es', bk', bs', p', e', M', wr', wp') ∧ f_X7_undo g kg ik = some (r, g') := by
  unfold f_X6_undo f_X7_undo
  rcases K with ⟨rfl, rfl⟩ | ⟨rfl, rfl, K⟩
  · rw [if_pos rfl, if_pos rfl]
    exact ⟨_, _, _, _, _, _, _, _, _, _, _, _, _, _, _, S, rfl, rfl⟩
  · obtain ⟨w, w1, w2⟩ := cp_7 kg g
    rw [if_neg (by decide), if_neg (by decide), cf_ K, ob_s, w1, ob_s, (K.fr w2).mo, ob_s]
    exact ⟨_, _, _, _, _, _, _, _, _, _, _, _, _, _, _, K.cp w2 mn sn en bk, rfl, rfl⟩
end COPIES
def TC (mn : Nat → Int32) (ms p e M wr : Int32) (g : Nat → Int32) : Prop := ∃ P E a W : Nat, PE P E ∧ GP g P E ∧ CM a mn g ∧ g 2 = nI W ∧ W ≤ 127 ∧ p = nI P ∧ e = nI E ∧ M = nI (P ^ E) ∧ ms = nI a ∧ wr = nI W
theorem rm_n {mn : Nat → Int32} {a n : Nat} (hn : n < a) (ha : a ≤ 6) : f_X1_remove (nI n) 18 mn (nI a) = some (va_cpy mn mn (3 * n + 3) (3 * n) (3 * (a - 1 - n)), nI (a - 1)) := by
  unfold f_X1_remove cpI_
  rw [if_neg (m1_y (by omega) hn), zl_1, pk_sub (show 1 ≤ a by omega), pk_sub (show n ≤ a - 1 by omega), zl_3, pk_mul, pk_mul, zo_, pk_sub (show 3 ≤ 18 by omega), pk_sub (show 3 * n ≤ 18 - 3 by omega), zl_0, if_pos ⟨nI_pos (by omega), nI_pos (by omega), nI_nlt (by omega) (by omega)⟩, nI_add, nI_clamp (by omega), nI_clamp (by omega), nI_clamp (by omega), if_pos ⟨nI_pos (by omega), nI_pos (by omega), nI_pos (by omega), by omega, by omega⟩, ob_s]
theorem rm_f {mn : Nat → Int32} {a n : Nat} (hn : a ≤ n) (ha : a ≤ 6) (hn2 : n < 100) : f_X1_remove (nI n) 18 mn (nI a) = some (mn, nI a) := by
  unfold f_X1_remove
  rw [if_pos]
  by_cases z : f_X6_isWithin (nI n) 0 (nI a - 1) = 0
  · exact z
  · obtain ⟨i, e, l⟩ := m1_s (by omega) z
    have := (nI_eq (by omega) (by omega)).mp e
    omega
theorem hl_7 {g : Nat → Int32} {a n : Nat} (hn : n < a) (ha : a ≤ 6) (h4 : g 4 = nI (a - 1)) : ∃ g', f_X7_happens_L112 (fun x => some x) 5000 (2 * nI n) g = some g' ∧ (∀ j, 2 * n ≤ j → j < 2 * (a - 1) → g' (5 + j) = g (7 + j)) ∧ ∀ j, (j < 5 + 2 * n ∨ 5 + 2 * (a - 1) ≤ j) → g' j = g j := by
  rw [zl_2, pk_mul]
  refine lp_ (σ := Nat → Int32) (fun f i s => f_X7_happens_L112 (fun x => some x) f (nI (2 * n + i)) s) (fun i s => (∀ j, 2 * n ≤ j → j < 2 * n + i → s (5 + j) = g (7 + j)) ∧ ∀ j, (j < 5 + 2 * n ∨ 5 + (2 * n + i) ≤ j) → s j = g j) (2 * (a - 1) - 2 * n) (fun o => ∃ g', o = some g' ∧ (∀ j, 2 * n ≤ j → j < 2 * (a - 1) → g' (5 + j) = g (7 + j)) ∧ ∀ j, (j < 5 + 2 * n ∨ 5 + 2 * (a - 1) ≤ j) → g' j = g j) ?_ ?_ (2 * (a - 1) - 2 * n) 0 5000 g (by omega) (by omega) ⟨fun j h1 h2 => by omega, fun j _ => rfl⟩
  · intro f i s hi hI
    refine Or.inr ⟨upd s (5 + (2 * n + i)) (s (7 + (2 * n + i))), ⟨fun j h1 h2 => ?_, fun j hj => ?_⟩, ?_⟩
    · by_cases z : j = 2 * n + i
      · rw [z, pk_us]
        exact hI.2 _ (by omega)
      · rw [pk_un (by omega)]
        exact hI.1 j h1 (by omega)
    · rw [pk_un (by omega)]
      exact hI.2 j (by omega)
    · show f_X7_happens_L112 _ (f + 1) (nI (2 * n + i)) s = f_X7_happens_L112 _ f (nI (2 * n + i + 1)) _
      rw [f_X7_happens_L112_s, rg_4, ob_s, hI.2 4 (by omega), h4, zl_2, pk_mul, if_neg (le_f (by omega) (by omega)), zl_7, zl_5, nI_add, nI_add, rd_n (by omega) (by omega), ob_s, wr_n (by omega) (by omega), ob_s, nI_1]
  · intro f s hI
    refine ⟨s, ?_, fun j h1 h2 => hI.1 j h1 (by omega), fun j hj => hI.2 j (by omega)⟩
    show f_X7_happens_L112 _ (f + 1) (nI (2 * n + (2 * (a - 1) - 2 * n))) s = _
    rw [f_X7_happens_L112_s, rg_4, ob_s, hI.2 4 (by omega), h4, zl_2, pk_mul, if_pos (le_t (by omega) (by omega))]
theorem hp_ {mn : Nat → Int32} {ms p e M wr : Int32} {g : Nat → Int32} (T : TC mn ms p e M wr g) {k n : Nat} (hE : EV k n) : ∃ mn' ms' p' e' M' wr' g', TC mn' ms' p' e' M' wr' g' ∧ g' 3 = g 3 ∧ f_X3_happen (nI k) (nI n) mn ms p e M wr = some (mn', ms', p', e', M', wr') ∧ f_X7_happens (nI k) (nI n) g = some g' := by
  obtain ⟨P, E, a, W, h1, h2, h4, h3, h3', rfl, rfl, rfl, rfl, rfl⟩ := T
  rcases hE with ⟨rfl, rfl⟩ | ⟨rfl, hn1, hn2⟩ | ⟨rfl, hn⟩ | ⟨rfl, hn⟩
  · have key : ∀ P', PE P' E → f_X3_nextPrime (nI P) = some (nI P') → f_X7_happens (nI 0) (nI 0) g = some (upd g 0 (nI P')) → ∃ mn' ms' p' e' M' wr' g', TC mn' ms' p' e' M' wr' g' ∧ g' 3 = g 3 ∧ f_X3_happen (nI 0) (nI 0) mn (nI a) (nI P) (nI E) (nI (P ^ E)) (nI W) = some (mn', ms', p', e', M', wr') ∧ f_X7_happens (nI 0) (nI 0) g = some g' := by
      intro P' pe e1 e2
      refine ⟨mn, nI a, nI P', nI E, nI (P' ^ E), nI W, upd g 0 (nI P'), ⟨P', E, a, W, pe, ⟨pk_us, by rw [pk_un (by omega)]; exact h2.2⟩, h4.f (fun j _ _ => pk_un (by omega)), by rw [pk_un (by omega)]; exact h3, h3', rfl, rfl, rfl, rfl, rfl⟩, pk_un (by omega), ?_, e2⟩
      unfold f_X3_happen f_X3_become
      rw [if_pos (show nI 0 = 0 from rfl), e1, ob_s, pw_0 pe, ob_s, ob_s]
    rcases h1.1 with rfl | rfl | rfl | rfl
    · refine key 3 ⟨by omega, h1.2⟩ (by decide) ?_
      unfold f_X7_happens
      rw [if_pos (show nI 0 = 0 from rfl), rg_0, ob_s, h2.1, if_pos (show nI 2 = 2 from rfl), wg_0, ob_s, if_neg (show ¬ nI 0 = 1 by decide), if_neg (show ¬ nI 0 = 2 by decide), if_neg (show ¬ nI 0 = 3 by decide)]
      rfl
    · refine key 5 ⟨by omega, h1.2⟩ (by decide) ?_
      unfold f_X7_happens
      rw [if_pos (show nI 0 = 0 from rfl), rg_0, ob_s, h2.1, if_neg (show ¬ nI 3 = 2 by decide), ob_s, if_neg (show ¬ nI 3 = 7 by decide), ob_s, wg_0, ob_s, if_neg (show ¬ nI 0 = 1 by decide), if_neg (show ¬ nI 0 = 2 by decide), if_neg (show ¬ nI 0 = 3 by decide)]
      rfl
    · refine key 7 ⟨by omega, h1.2⟩ (by decide) ?_
      unfold f_X7_happens
      rw [if_pos (show nI 0 = 0 from rfl), rg_0, ob_s, h2.1, if_neg (show ¬ nI 5 = 2 by decide), ob_s, if_neg (show ¬ nI 5 = 7 by decide), ob_s, wg_0, ob_s, if_neg (show ¬ nI 0 = 1 by decide), if_neg (show ¬ nI 0 = 2 by decide), if_neg (show ¬ nI 0 = 3 by decide)]
      rfl
    · refine key 2 ⟨by omega, h1.2⟩ (by decide) ?_
      unfold f_X7_happens
      rw [if_pos (show nI 0 = 0 from rfl), rg_0, ob_s, h2.1, if_neg (show ¬ nI 7 = 2 by decide), ob_s, if_pos (show nI 7 = 7 from rfl), wg_0, ob_s, if_neg (show ¬ nI 0 = 1 by decide), if_neg (show ¬ nI 0 = 2 by decide), if_neg (show ¬ nI 0 = 3 by decide)]
      rfl
  · have pe : PE P n := ⟨h1.1, hn1, hn2⟩
    refine ⟨mn, nI a, nI P, nI n, nI (P ^ n), nI W, upd g 1 (nI n), ⟨P, n, a, W, pe, ⟨by rw [pk_un (by omega)]; exact h2.1, pk_us⟩, h4.f (fun j _ _ => pk_un (by omega)), by rw [pk_un (by omega)]; exact h3, h3', rfl, rfl, rfl, rfl, rfl⟩, pk_un (by omega), ?_, ?_⟩
    · unfold f_X3_happen f_X3_become
      rw [if_neg (show ¬ nI 1 = 0 by decide), if_pos (show nI 1 = 1 from rfl), pw_0 pe, ob_s, ob_s]
    · unfold f_X7_happens
      rw [if_neg (show ¬ nI 1 = 0 by decide), if_pos (show nI 1 = 1 from rfl), wg_1, ob_s, if_neg (show ¬ nI 1 = 2 by decide), if_neg (show ¬ nI 1 = 3 by decide)]
  · have em : (if (nI W + nI n) < 127 then (nI W + nI n) else 127) = nI (if W + n < 127 then W + n else 127) := by
      rw [nI_add, zl_127]
      by_cases z : W + n < 127
      · rw [if_pos (nI_lt z (by omega)), if_pos z]
      · rw [if_neg (nI_nlt (by omega) (by omega)), if_neg z]
    refine ⟨mn, nI a, nI P, nI E, nI (P ^ E), nI (if W + n < 127 then W + n else 127), upd g 2 (nI (if W + n < 127 then W + n else 127)), ⟨P, E, a, _, h1, h2.f (fun j _ => pk_un (by omega)), h4.f (fun j _ _ => pk_un (by omega)), pk_us, by split <;> omega, rfl, rfl, rfl, rfl, rfl⟩, pk_un (by omega), ?_, ?_⟩
    · unfold f_X3_happen
      rw [if_neg (show ¬ nI 2 = 0 by decide), if_neg (show ¬ nI 2 = 1 by decide), if_pos (show nI 2 = 2 from rfl), em]
    · unfold f_X7_happens
      rw [if_neg (show ¬ nI 2 = 0 by decide), if_neg (show ¬ nI 2 = 1 by decide), if_pos (show nI 2 = 2 from rfl), rg_2, ob_s, h3, em, wg_2, ob_s, if_neg (show ¬ nI 2 = 3 by decide)]
  · have la := h4.1
    have e6 : f_X3_happen (nI 3) (nI n) mn (nI a) (nI P) (nI E) (nI (P ^ E)) (nI W) = Option.bind (f_X1_remove (nI n) 18 mn (nI a)) (fun u_7 => (some (u_7.1, u_7.2, nI P, nI E, nI (P ^ E), nI W))) := by
      unfold f_X3_happen
      rw [if_neg (show ¬ nI 3 = 0 by decide), if_neg (show ¬ nI 3 = 1 by decide), if_neg (show ¬ nI 3 = 2 by decide)]
    have e7 : f_X7_happens (nI 3) (nI n) g = if nI a ≤ nI n then some g else f_X7_happens_L112 (fun x => some x) 5000 (2 * nI n) (upd g 4 (nI a - 1)) := by
      unfold f_X7_happens
      rw [if_neg (show ¬ nI 3 = 0 by decide), if_neg (show ¬ nI 3 = 1 by decide), if_neg (show ¬ nI 3 = 2 by decide), if_pos (show nI 3 = 3 from rfl), rg_4, ob_s, ob_s, wg_4, ob_s, h4.2.1]
    rw [e6, e7]
    by_cases z : a ≤ n
    · rw [rm_f z la (by omega), if_pos (le_t z (by omega))]
      exact ⟨_, _, _, _, _, _, _, ⟨P, E, a, W, h1, h2, h4, h3, h3', rfl, rfl, rfl, rfl, rfl⟩, rfl, rfl, rfl⟩
    · rw [rm_n (by omega) la, if_neg (le_f (by omega) (by omega)), zl_1, pk_sub (show 1 ≤ a by omega)]
      obtain ⟨g', q1, q2, q3⟩ := hl_7 (g := upd g 4 (nI (a - 1))) (a := a) (n := n) (by omega) la pk_us
      rw [q1]
      have nb : ∀ j, (j < 4 ∨ 5 + 2 * (a - 1) ≤ j) → g' j = g j := fun j hj => by rw [q3 j (by omega), pk_un (by omega)]
      refine ⟨va_cpy mn mn (3 * n + 3) (3 * n) (3 * (a - 1 - n)), _, _, _, _, _, g', ⟨P, E, a - 1, W, h1, h2.f (fun j hj => nb j (by omega)), ⟨by omega, by rw [q3 4 (by omega), pk_us], fun i hi => ?_⟩, by rw [nb 2 (by omega)]; exact h3, h3', rfl, rfl, rfl, rfl, rfl⟩, nb 3 (by omega), rfl, rfl⟩
      by_cases w : i < n
      · rw [q3 (5 + 2 * i) (by omega), q3 (6 + 2 * i) (by omega), pk_un (by omega), pk_un (by omega), pk_cpy_out (by omega), pk_cpy_out (by omega)]
        exact h4.2.2 i (by omega)
      · have x1 := q2 (2 * i) (by omega) (by omega)
        have x2 := q2 (2 * i + 1) (by omega) (by omega)
        rw [pk_un (by omega), show 7 + 2 * i = 5 + 2 * (i + 1) by omega] at x1
        rw [pk_un (by omega), show 7 + (2 * i + 1) = 6 + 2 * (i + 1) by omega, show 5 + (2 * i + 1) = 6 + 2 * i by omega] at x2
        rw [x1, x2, pk_cpy_in (by omega) (by omega), pk_cpy_in (by omega) (by omega), show 3 * n + 3 + (3 * i - 3 * n) = 3 * (i + 1) by omega, show 3 * n + 3 + (3 * i + 1 - 3 * n) = 3 * (i + 1) + 1 by omega]
        exact h4.2.2 (i + 1) (by omega)
section AFTER
variable {mn : Nat → Int32} {ms : Int32} {sn : Nat → Int32} {ss : Int32} {en : Nat → Int32} {es : Int32} {bk : Nat → Int32} {bs p e M wr wp : Int32} {g : Nat → Int32} {h : Nat → Int32} {t : TR}
theorem af_ {c : Nat} {was : Nat → Int32} (h6 : CE c en was) (k6 : (Nat → Int32) → Int32 → Int32 → Int32 → Int32 → Int32 → Option (Int32 × (Nat → Int32) × Int32 × (Nat → Int32) × Int32 × (Nat → Int32) × Int32 × (Nat → Int32) × Int32 × Int32 × Int32 × Int32 × Int32 × Int32)) (k7 : (Nat → Int32) → Option (Int32 × (Nat → Int32) × (Nat → Int32) × (Nat → Int32) × Int32)) : ∀ (m i f f' : Nat) (mn : Nat → Int32) (ms p e M wr : Int32) (g : Nat → Int32), i + m = c → TC mn ms p e M wr g → m < f → m < f' → ∃ mn' ms' p' e' M' wr' g', TC mn' ms' p' e' M' wr' g' ∧ g' 3 = g 3 ∧ f_X6_after_L24 k6 en (nI c) f (nI i) mn ms p e M wr = k6 mn' ms' p' e' M' wr' ∧ f_X7_after_L27 k7 was f' (nI i) g = k7 g' := by
  have lc := h6.1
  intro m
  induction m with
  | zero =>
    intro i f f' mn ms p e M wr g hi T hf hf'
    obtain ⟨f, rfl⟩ : ∃ g, f = g + 1 := ⟨f - 1, by omega⟩
    obtain ⟨f', rfl⟩ : ∃ g, f' = g + 1 := ⟨f' - 1, by omega⟩
    refine ⟨_, _, _, _, _, _, _, T, rfl, ?_, ?_⟩
    · rw [f_X6_after_L24_s, if_pos (le_t (by omega) (by omega))]
    · rw [f_X7_after_L27_s, rg_30, ob_s, h6.2.1, if_pos (le_t (by omega) (by omega))]
  | succ m ih =>
    intro i f f' mn ms p e M wr g hi T hf hf'
    obtain ⟨f, rfl⟩ : ∃ g, f = g + 1 := ⟨f - 1, by omega⟩
    obtain ⟨f', rfl⟩ : ∃ g, f' = g + 1 := ⟨f' - 1, by omega⟩
    obtain ⟨q1, q2, k, n, hE, e1, e2⟩ := h6.2.2 i (by omega)
    obtain ⟨mn1, ms1, p1, e1', M1, wr1, g1, T1, g3, x6, x7⟩ := hp_ T hE
    obtain ⟨mn', ms', p', e', M', wr', g', T', g3', y6, y7⟩ := ih (i + 1) f f' mn1 ms1 p1 e1' M1 wr1 g1 (by omega) T1 (by omega) (by omega)
    refine ⟨mn', ms', p', e', M', wr', g', T', by rw [g3', g3], ?_, ?_⟩
    · rw [f_X6_after_L24_s, if_neg (le_f (by omega) (by omega))]
      rw [show f_X1_number (nI i) 0 24 en (nI c) = some (en (3 * i)) from nu_ (j := 0) (by omega) (by omega) (by omega) (by omega) (by omega), show f_X1_number (nI i) 1 24 en (nI c) = some (en (3 * i + 1)) from nu_ (j := 1) (by omega) (by omega) (by omega) (by omega) (by omega)]
      rw [ob_s, ob_s, e1, e2, x6, ob_s, nI_1]
      exact y6
    · rw [f_X7_after_L27_s, rg_30, ob_s, h6.2.1, if_neg (le_f (by omega) (by omega)), rc_31 (by omega), ob_s, rc_32 (by omega), ob_s, q1, q2, e1, e2, x7, ob_s, nI_1]
      exact y7
theorem pm_after {tmn : Nat → Int32} {tms : Int32} {tsn : Nat → Int32} {tss : Int32} {ten : Nat → Int32} {tes : Int32} {tbk : Nat → Int32} {tbs tp te tM twr twp : Int32} {was : Nat → Int32} (S : SX mn ms sn ss en es bk bs p e M wr wp g) (H : HT h) (O : OK t) (p0 : Int32) : ∃ r tmn' tms' tsn' tss' ten' tes' tbk' tbs' tp' te' tM' twr' twp' g' was' t', SX mn ms sn ss en es bk bs p e M wr wp g' ∧ OK t' ∧ f_X6_after p0 h mn ms sn ss en es bk bs p e wr wp tmn tms tsn tss ten tes tbk tbs tp te tM twr twp = some (r, tmn', tms', tsn', tss', ten', tes', tbk', tbs', tp', te', tM', twr', twp') ∧ f_X7_after p0 g was t.1 t.2 = some (r, g', was', t'.1, t'.2) := by
  unfold f_X6_after f_X7_after
  rw [show f_X7_isIn (Int32.toInt64 p0) 0 2 = f_X6_isWithin p0 0 2 from ii_ p0 0 2]
  by_cases q : f_X6_isWithin p0 0 2 = 0
  · rw [if_pos q, if_pos q]
    exact ⟨_, _, _, _, _, _, _, _, _, _, _, _, _, _, _, _, t, S, O, rfl, rfl⟩
  rw [if_neg q, if_neg q, cf_ S, ob_s]
  obtain ⟨w, w1, w2⟩ := cp_7 g was
  rw [w1, ob_s]
  have S0 := S
  obtain ⟨P, E, a, b, c, d, W0, W1, h1, h2, h3, h4, h5, h6, h7, rfl, rfl, rfl, rfl, rfl, rfl, rfl, rfl, rfl⟩ := S
  have h6w : CE c en w := h6.f (fun j _ _ => w2 j (by omega))
  have la := h4.1
  have lc := h6.1
  have T0 : TC (va_cpy mn tmn 0 0 18) (nI a) (nI P) (nI E) (nI (P ^ E)) (nI W0) g := ⟨P, E, a, W0, h1, h2, h4.cc (fun j hj => cy_ (by omega)), h3.2.2.1, h3.1, rfl, rfl, rfl, rfl, rfl⟩
  obtain ⟨mn', ms', p', e', M', wr', g', T', g3, y6, y7⟩ := af_ h6w (fun xc_o_trial_marks_numbers_24 xc_o_trial_marks_size_24 xc_o_trial_p_24 xc_o_trial_e_24 xc_o_trial_modulus_24 xc_o_trial_windowRow_24 => (if (p0 = 0) then (Option.bind (f_X3_markedInWindow h xc_o_trial_marks_numbers_24 xc_o_trial_marks_size_24 xc_o_trial_p_24 xc_o_trial_modulus_24 xc_o_trial_windowRow_24 (nI W1)) (fun u_11 => (some (u_11, xc_o_trial_marks_numbers_24, xc_o_trial_marks_size_24, va_cpy sn tsn 0 0 12, nI b, va_cpy en ten 0 0 24, nI c, va_cpy bk tbk 0 0 24, nI d, xc_o_trial_p_24, xc_o_trial_e_24, xc_o_trial_modulus_24, xc_o_trial_windowRow_24, nI W1)))) else (qn_ (if (¬ (p0 = 1)) then xc_o_trial_marks_size_24 else xc_o_trial_modulus_24) (fun y_9 => (some (y_9, xc_o_trial_marks_numbers_24, xc_o_trial_marks_size_24, va_cpy sn tsn 0 0 12, nI b, va_cpy en ten 0 0 24, nI c, va_cpy bk tbk 0 0 24, nI d, xc_o_trial_p_24, xc_o_trial_e_24, xc_o_trial_modulus_24, xc_o_trial_windowRow_24, nI W1))))))
    (fun xc_o_g_27 => (if (p0 = 0) then (Option.bind (f_X7_markedInWindow xc_o_g_27 t.1 t.2) (fun u_14 => (Option.bind (f_X7_copies 64 64 w xc_o_g_27) (fun u_15 => (some (u_14.1, u_15, w, u_14.2.1, u_14.2.2)))))) else (if (p0 = 1) then (Option.bind (f_X7_modulus xc_o_g_27) (fun u_12 => (Option.bind (f_X7_copies 64 64 w xc_o_g_27) (fun u_13 => (some (u_12, u_13, w, t.1, t.2)))))) else (Option.bind (rd_ xc_o_g_27 64 4) (fun g_10 => (Option.bind (f_X7_copies 64 64 w xc_o_g_27) (fun u_11 => (some (g_10, u_11, w, t.1, t.2))))))))) c 0 5000 5000 _ _ _ _ _ _ _ (by omega) T0 (by omega) (by omega)
  obtain ⟨v, v1, v2⟩ := cp_7 w g'
  have Sv : SX mn (nI a) sn (nI b) en (nI c) bk (nI d) (nI P) (nI E) (nI (P ^ E)) (nI W0) (nI W1) v := S0.fr (fun j hj => by rw [v2 j hj, w2 j hj])
  obtain ⟨P', E', a', W', k1, k2, k4, k3, k3', rfl, rfl, rfl, rfl, rfl⟩ := T'
  have Gw : GW g' W' W1 := ⟨k3', h3.2.1, k3, by rw [g3]; exact h3.2.2.2⟩
  by_cases z0 : p0 = 0
  · obtain ⟨t', a1, b1⟩ := mw_7 ⟨k1, k2, H⟩ k4 O Gw
    rw [if_pos z0, mw_6 ⟨k1, k2, H⟩ k4 k3' h3.2.1, ob_s] at y6
    rw [if_pos z0, b1, ob_s, v1, ob_s] at y7
    exact ⟨_, _, _, _, _, _, _, _, _, _, _, _, _, _, v, w, t', Sv, a1, y6, y7⟩
  · rw [if_neg z0] at y6 y7
    by_cases z1 : p0 = 1
    · rw [qn_s, if_neg (fun q => q z1)] at y6
      rw [if_pos z1, mo_7 k1 k2, ob_s, v1, ob_s] at y7
      exact ⟨_, _, _, _, _, _, _, _, _, _, _, _, _, _, v, w, t, Sv, O, y6, y7⟩
    · rw [qn_s, if_pos z1] at y6
      rw [if_neg z1, rg_4, ob_s, v1, ob_s, k4.2.1] at y7
      exact ⟨_, _, _, _, _, _, _, _, _, _, _, _, _, _, v, w, t, Sv, O, y6, y7⟩
end AFTER
/-! the start -/
theorem pm_init6 : ∃ h so, HT h ∧ (∀ T, T < 6 → so T = -1) ∧ f_X6_init = some (h, so) := by
  obtain ⟨h, hH, e⟩ := in_5
  have e4 : f_X4_init = some (upd (upd (upd (upd (upd (upd (fun _ => 0) 0 (-1)) 1 (-1)) 2 (-1)) 3 (-1)) 4 (-1)) 5 (-1)) := rfl
  unfold f_X6_init
  rw [e, ob_s, e4, ob_s]
  refine ⟨h, _, hH, fun T hT => ?_, rfl⟩
  have c : T = 0 ∨ T = 1 ∨ T = 2 ∨ T = 3 ∨ T = 4 ∨ T = 5 := by omega
  rcases c with rfl | rfl | rfl | rfl | rfl | rfl <;> rfl
theorem pm_init7 : ∃ g so, g 0 = 2 ∧ g 1 = 1 ∧ (∀ j, 2 ≤ j → g j = 0) ∧ (∀ T, T < 6 → so T = -1) ∧ f_X7_init = some (g, so) := by
  unfold f_X7_init
  rw [wg_0, ob_s, wg_1, ob_s]
  have := lp_ (σ := Nat → Int32) (fun f i s => f_X7_init_L86 (fun x => some (upd (upd (fun _ => 0) 0 2) 1 1, x)) f (nI i) s) (fun i s => ∀ T, T < i → s T = -1) 6 (fun o => ∃ so, (∀ T, T < 6 → so T = -1) ∧ o = some (upd (upd (fun _ => 0) 0 2) 1 1, so)) ?_ ?_ 6 0 5000 (fun _ => 0) (by omega) (by omega) (fun T h => by omega)
  · obtain ⟨so, a, b⟩ := this
    exact ⟨_, so, rfl, rfl, fun j hj => by rw [pk_un (by omega), pk_un (by omega)], a, b⟩
  · intro f i s hi hI
    refine Or.inr ⟨upd s i (-1), fun T hT => ?_, ?_⟩
    · by_cases z : T = i
      · rw [z, pk_us]
      · rw [pk_un z]
        exact hI T (by omega)
    · show f_X7_init_L86 _ (f + 1) (nI i) s = f_X7_init_L86 _ f (nI (i + 1)) _
      rw [f_X7_init_L86_s, zl_6, if_neg (le_f (by omega) (by omega)), wr_n (by omega) (by omega), ob_s, nI_1]
  · intro f s hI
    refine ⟨s, hI, ?_⟩
    show f_X7_init_L86 _ (f + 1) (nI 6) s = _
    rw [f_X7_init_L86_s, zl_6, if_pos (le_t (by omega) (by omega))]
theorem pm_start {g : Nat → Int32} (g0 : g 0 = 2) (g1 : g 1 = 1) (gj : ∀ j, 2 ≤ j → g j = 0) (mn sn en bk : Nat → Int32) : SX mn 0 sn 0 en 0 bk 0 2 1 2 0 0 g := ⟨2, 1, 0, 0, 0, 0, 0, 0, ⟨Or.inl rfl, by omega, by omega⟩, ⟨g0, g1⟩, ⟨by omega, by omega, gj 2 (by omega), gj 3 (by omega)⟩, ⟨by omega, gj 4 (by omega), fun i hi => by omega⟩, ⟨by omega, gj 17 (by omega), fun i hi => by omega⟩, ⟨by omega, gj 30 (by omega), fun i hi => by omega⟩, ⟨by omega, gj 47 (by omega), fun i hi => by omega⟩, rfl, rfl, rfl, rfl, rfl, rfl, rfl, rfl, rfl⟩
theorem pm_tapes {so so' : Nat → Int32} (a : ∀ T, T < 6 → so T = -1) (b : ∀ T, T < 6 → so' T = -1) : TP so (fun _ => 0) (fun _ => 0) so' (fun _ => 0) (fun _ => 0) := fun T hT => ⟨by rw [a T hT, b T hT], Or.inl (b T hT), 0, by omega, rfl, rfl, fun _ => rfl, fun i hi => by omega⟩
