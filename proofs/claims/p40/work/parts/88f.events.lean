/-! p40: events by the script; what happens by them, in numbers; after; the image -/
section MKW
variable {P E a W0 W1 : Nat} {h mn mn' : Nat → Int32}
def sgp (P E a : Nat) (mn : Nat → Int32) : Nat → Int32 := fun j => if j = 0 then nI P else if j = 1 then nI E else if j = 4 then nI a else if j % 2 = 1 then mn (3 * ((j - 5) / 2)) else mn (3 * ((j - 5) / 2) + 1)
theorem mk_w (pe : PE P E) (H : HT h) (mk : MKS mn a) (h0 : W0 ≤ 127) (h1 : W1 ≤ 127) : f_X3_markedInWindow h mn (nI a) (nI P) (nI (P ^ E)) (nI W0) (nI W1) = some (nI (MW h mn P (P ^ E) a W0 W1)) := by
  refine mw_6 (g := sgp P E a mn) ⟨pe, ⟨rfl, rfl⟩, H⟩ ⟨mk.1, rfl, fun i hi => ⟨?_, ?_, ?_⟩⟩ h0 h1
  · unfold sgp
    rw [if_neg (by omega), if_neg (by omega), if_neg (by omega), if_pos (by omega), show (5 + 2 * i - 5) / 2 = i by omega]
  · unfold sgp
    rw [if_neg (by omega), if_neg (by omega), if_neg (by omega), if_neg (by omega), show (6 + 2 * i - 5) / 2 = i by omega]
  · obtain ⟨k, v, hk, _, e, _⟩ := mk.2 i hi
    exact ⟨k, hk, e⟩
theorem mm_c {M r c : Nat} : ∀ i, (∀ j, j < i → mn' (3 * j) = mn (3 * j) ∧ mn' (3 * j + 1) = mn (3 * j + 1)) → mm h mn' P M r c i = mm h mn P M r c i
  | 0, _ => rfl
  | i + 1, q => by
    have q1 := q i (by omega)
    unfold mm
    rw [mm_c i (fun j hj => q j (by omega)), q1.1, q1.2]
theorem mw_c {M : Nat} (q : ∀ j, j < a → mn' (3 * j) = mn (3 * j) ∧ mn' (3 * j + 1) = mn (3 * j + 1)) : MW h mn' P M a W0 W1 = MW h mn P M a W0 W1 := by
  have e : (fun i c => MK h mn' P M a (W0 + i) (W1 + c)) = fun i c => MK h mn P M a (W0 + i) (W1 + c) := by
    funext i c
    unfold MK
    rw [mm_c a q]
  unfold MW
  rw [e]
end MKW
/-- prime, power, how many marks, the window's row, the marks' kinds and numbers -/
abbrev AB : Type := Nat × Nat × Nat × Nat × (Nat → Int32) × (Nat → Int32)
def nxp (P : Nat) : Nat := if P = 2 then 3 else if P = 3 then 5 else if P = 5 then 7 else 2
def stp (k n : Nat) (A : AB) : AB :=
  if k = 0 then (nxp A.1, A.2) else if k = 1 then (A.1, n, A.2.2) else if k = 2 then (A.1, A.2.1, A.2.2.1, min 127 (A.2.2.2.1 + n), A.2.2.2.2) else
  if n < A.2.2.1 then (A.1, A.2.1, A.2.2.1 - 1, A.2.2.2.1, (fun j => if j < n then A.2.2.2.2.1 j else A.2.2.2.2.1 (j + 1)), fun j => if j < n then A.2.2.2.2.2 j else A.2.2.2.2.2 (j + 1)) else A
def ABs (ek ev : Nat → Nat) (A : AB) : Nat → AB
  | 0 => A
  | i + 1 => stp (ek i) (ev i) (ABs ek ev A i)
def VAB (A : AB) : Prop := PE A.1 A.2.1 ∧ A.2.2.1 ≤ 6 ∧ A.2.2.2.1 ≤ 127 ∧ ∀ j, j < A.2.2.1 → ∃ k v, k ≤ 4 ∧ v ≤ 2400 ∧ A.2.2.2.2.1 j = nI k ∧ A.2.2.2.2.2 j = nI v
theorem nxp_v {P E : Nat} (h : PE P E) : PE (nxp P) E ∧ f_X3_nextPrime (nI P) = some (nI (nxp P)) := by
  obtain ⟨h1, h2⟩ := h
  rcases h1 with rfl | rfl | rfl | rfl
  · exact ⟨⟨Or.inr (Or.inl rfl), h2⟩, rfl⟩
  · exact ⟨⟨Or.inr (Or.inr (Or.inl rfl)), h2⟩, rfl⟩
  · exact ⟨⟨Or.inr (Or.inr (Or.inr rfl)), h2⟩, rfl⟩
  · exact ⟨⟨Or.inl rfl, h2⟩, rfl⟩
theorem stp_v {k n : Nat} {A : AB} (hE : EV k n) (h : VAB A) : VAB (stp k n A) := by
  obtain ⟨h1, h2, h3, h4⟩ := h
  unfold stp
  rcases hE with ⟨rfl, rfl⟩ | ⟨rfl, l1, l2⟩ | ⟨rfl, l1⟩ | ⟨rfl, l1⟩
  · rw [if_pos rfl]
    exact ⟨(nxp_v h1).1, h2, h3, h4⟩
  · rw [if_neg (by omega), if_pos rfl]
    exact ⟨⟨h1.1, l1, l2⟩, h2, h3, h4⟩
  · rw [if_neg (by omega), if_neg (by omega), if_pos rfl]
    exact ⟨h1, h2, Nat.min_le_left _ _, h4⟩
  · rw [if_neg (by omega), if_neg (by omega), if_neg (by omega)]
    by_cases c : n < A.2.2.1
    · rw [if_pos c]
      refine ⟨h1, show A.2.2.1 - 1 ≤ 6 by omega, h3, fun j hj => ?_⟩
      have hj : j < A.2.2.1 - 1 := hj
      by_cases cj : j < n
      · have := h4 j (by omega)
        dsimp only
        rw [if_pos cj, if_pos cj]
        exact this
      · have := h4 (j + 1) (by omega)
        dsimp only
        rw [if_neg cj, if_neg cj]
        exact this
    · rw [if_neg c]
      exact ⟨h1, h2, h3, h4⟩
theorem abs_v {ek ev : Nat → Nat} {A : AB} {c : Nat} (h : VAB A) (hE : ∀ i, i < c → EV (ek i) (ev i)) : ∀ i, i ≤ c → VAB (ABs ek ev A i)
  | 0, _ => h
  | i + 1, hi => stp_v (hE i (by omega)) (abs_v h hE i (by omega))
def ROW (A : AB) (mn : Nat → Int32) : Prop := ∀ j, j < A.2.2.1 → mn (3 * j) = A.2.2.2.2.1 j ∧ mn (3 * j + 1) = A.2.2.2.2.2 j
theorem hp_a {k n : Nat} {A : AB} (hE : EV k n) (h : VAB A) {tmn : Nat → Int32} (hR : ROW A tmn) : ∃ tmn', ROW (stp k n A) tmn' ∧ f_X3_happen (nI k) (nI n) tmn (nI A.2.2.1) (nI A.1) (nI A.2.1) (nI (A.1 ^ A.2.1)) (nI A.2.2.2.1) = some (tmn', nI (stp k n A).2.2.1, nI (stp k n A).1, nI (stp k n A).2.1, nI ((stp k n A).1 ^ (stp k n A).2.1), nI (stp k n A).2.2.2.1) := by
  obtain ⟨h1, h2, h3, h4⟩ := h
  unfold f_X3_happen
  rcases hE with ⟨rfl, rfl⟩ | ⟨rfl, l1, l2⟩ | ⟨rfl, l1⟩ | ⟨rfl, l1⟩
  · have e : stp 0 0 A = (nxp A.1, A.2) := if_pos rfl
    have p := nxp_v h1
    rw [e, if_pos (show nI 0 = (0 : Int32) from rfl), p.2, ob_s]
    unfold f_X3_become
    rw [pw_0 p.1]
    exact ⟨tmn, hR, rfl⟩
  · have e : stp 1 n A = (A.1, n, A.2.2) := by
      unfold stp
      rw [if_neg (by omega), if_pos rfl]
    have p : PE A.1 n := ⟨h1.1, l1, l2⟩
    rw [e, if_neg (show ¬ nI 1 = (0 : Int32) by decide), if_pos (show nI 1 = (1 : Int32) from rfl)]
    unfold f_X3_become
    rw [pw_0 p]
    exact ⟨tmn, hR, rfl⟩
  · have e : stp 2 n A = (A.1, A.2.1, A.2.2.1, min 127 (A.2.2.2.1 + n), A.2.2.2.2) := by
      unfold stp
      rw [if_neg (by omega), if_neg (by omega), if_pos rfl]
    rw [e, if_neg (show ¬ nI 2 = (0 : Int32) by decide), if_neg (show ¬ nI 2 = (1 : Int32) by decide), if_pos (show nI 2 = (2 : Int32) from rfl)]
    refine ⟨tmn, hR, ?_⟩
    have e2 : (if nI A.2.2.2.1 + nI n < 127 then nI A.2.2.2.1 + nI n else 127) = nI (min 127 (A.2.2.2.1 + n)) := by
      rw [nI_add, zl_127]
      by_cases c : A.2.2.2.1 + n < 127
      · rw [if_pos (nI_lt c (by omega)), Nat.min_eq_right (by omega)]
      · rw [if_neg (nI_nlt (by omega) (by omega)), Nat.min_eq_left (by omega)]
    rw [e2]
  · rw [if_neg (show ¬ nI 3 = (0 : Int32) by decide), if_neg (show ¬ nI 3 = (1 : Int32) by decide), if_neg (show ¬ nI 3 = (2 : Int32) by decide)]
    by_cases c : n < A.2.2.1
    · have e : stp 3 n A = (A.1, A.2.1, A.2.2.1 - 1, A.2.2.2.1, (fun j => if j < n then A.2.2.2.2.1 j else A.2.2.2.2.1 (j + 1)), fun j => if j < n then A.2.2.2.2.2 j else A.2.2.2.2.2 (j + 1)) := by
        unfold stp
        rw [if_neg (by omega), if_neg (by omega), if_neg (by omega), if_pos c]
      rw [e, rm_n c h2, ob_s]
      refine ⟨_, fun j hj => ?_, rfl⟩
      have hj : j < A.2.2.1 - 1 := hj
      by_cases cj : j < n
      · have := hR j (by omega)
        dsimp only
        rw [if_pos cj, if_pos cj, pk_cpy_out (by omega), pk_cpy_out (by omega)]
        exact this
      · have := hR (j + 1) (by omega)
        dsimp only
        rw [if_neg cj, if_neg cj, pk_cpy_in (by omega) (by omega), pk_cpy_in (by omega) (by omega), show 3 * n + 3 + (3 * j - 3 * n) = 3 * (j + 1) by omega, show 3 * n + 3 + (3 * j + 1 - 3 * n) = 3 * (j + 1) + 1 by omega]
        exact this
    · have e : stp 3 n A = A := by
        unfold stp
        rw [if_neg (by omega), if_neg (by omega), if_neg (by omega), if_neg c]
      rw [e, rm_f (by omega) h2 (by omega), ob_s]
      exact ⟨tmn, hR, rfl⟩
def CEV (en : Nat → Int32) (ek ev : Nat → Nat) (c : Nat) : Prop := ∀ i, i < c → en (3 * i) = nI (ek i) ∧ en (3 * i + 1) = nI (ev i)
theorem af_a {en : Nat → Int32} {ek ev : Nat → Nat} {c : Nat} {A : AB} (hc : c ≤ 8) (hV : VAB A) (hE : ∀ i, i < c → EV (ek i) (ev i)) (hR : CEV en ek ev c) {K : (Nat → Int32) → Int32 → Int32 → Int32 → Int32 → Int32 → Option (Int32 × (Nat → Int32) × Int32 × (Nat → Int32) × Int32 × (Nat → Int32) × Int32 × (Nat → Int32) × Int32 × Int32 × Int32 × Int32 × Int32 × Int32)} : ∀ (d i f : Nat) (tmn : Nat → Int32), i + d = c → d < f → ROW (ABs ek ev A i) tmn → ∃ tmn', ROW (ABs ek ev A c) tmn' ∧ f_X6_after_L24 K en (nI c) f (nI i) tmn (nI (ABs ek ev A i).2.2.1) (nI (ABs ek ev A i).1) (nI (ABs ek ev A i).2.1) (nI ((ABs ek ev A i).1 ^ (ABs ek ev A i).2.1)) (nI (ABs ek ev A i).2.2.2.1) = K tmn' (nI (ABs ek ev A c).2.2.1) (nI (ABs ek ev A c).1) (nI (ABs ek ev A c).2.1) (nI ((ABs ek ev A c).1 ^ (ABs ek ev A c).2.1)) (nI (ABs ek ev A c).2.2.2.1) := by
  intro d
  induction d with
  | zero =>
    intro i f tmn hi hf hr
    obtain ⟨f, rfl⟩ : ∃ g, f = g + 1 := ⟨f - 1, by omega⟩
    have e : i = c := by omega
    subst e
    refine ⟨tmn, hr, ?_⟩
    rw [f_X6_after_L24_s, if_pos (le_t (Nat.le_refl _) (by omega))]
  | succ d ih =>
    intro i f tmn hi hf hr
    obtain ⟨f, rfl⟩ : ∃ g, f = g + 1 := ⟨f - 1, by omega⟩
    obtain ⟨t1, a1, a2⟩ := hp_a (hE i (by omega)) (abs_v hV hE i (by omega)) hr
    obtain ⟨t2, b1, b2⟩ := ih (i + 1) f t1 (by omega) (by omega) a1
    refine ⟨t2, b1, ?_⟩
    have n0 : f_X1_number (nI i) (0 : Int32) 24 en (nI c) = some (nI (ek i)) := by
      rw [zl_0, nu_ (by omega) (by omega) (by omega) (by omega) (by omega)]
      exact congrArg some (hR i (by omega)).1
    have n1 : f_X1_number (nI i) (1 : Int32) 24 en (nI c) = some (nI (ev i)) := by
      rw [zl_1, nu_ (by omega) (by omega) (by omega) (by omega) (by omega)]
      exact congrArg some (hR i (by omega)).2
    rw [f_X6_after_L24_s, if_neg (le_f (by omega) (by omega)), n0, ob_s, n1, ob_s, a2, ob_s, nI_1]
    exact b2
theorem cff {P E : Nat} (pe : PE P E) (omn osn oen obk mn sn en bk : Nat → Int32) (oms oss oes obs op oe oM owr owp ms ss es bs wr wp : Int32) : f_X3_copyFrom omn oms osn oss oen oes obk obs op oe oM owr owp mn ms sn ss en es bk bs (nI P) (nI E) wr wp = some (va_cpy mn omn 0 0 18, ms, va_cpy sn osn 0 0 12, ss, va_cpy en oen 0 0 24, es, va_cpy bk obk 0 0 24, bs, nI P, nI E, nI (P ^ E), wr, wp) := by
  unfold f_X3_copyFrom f_X3_become
  rw [pw_0 pe, ob_s, ob_s, cf_1 (n := 18) (by omega), ob_s, cf_1 (n := 12) (by omega), ob_s, cf_1 (n := 24) (by omega), ob_s, cf_1 (n := 24) (by omega), ob_s]
/-- the marks of numbers, as lines -/
def amn (A : AB) : Nat → Int32 := fun j => if j % 3 = 0 then A.2.2.2.2.1 (j / 3) else A.2.2.2.2.2 (j / 3)
theorem amn_r (A : AB) : ROW A (amn A) := fun j _ => by
  unfold amn
  rw [if_pos (by omega), if_neg (by omega), show 3 * j / 3 = j by omega, show (3 * j + 1) / 3 = j by omega]
  exact ⟨rfl, rfl⟩
theorem row_m {A : AB} {mn : Nat → Int32} (h : VAB A) (r : ROW A mn) : MKS mn A.2.2.1 := ⟨h.2.1, fun i hi => by
  obtain ⟨k, v, a, b, c, d⟩ := h.2.2.2 i hi
  exact ⟨k, v, a, b, by rw [(r i hi).1]; exact c, by rw [(r i hi).2]; exact d⟩⟩
def AV (h : Nat → Int32) (A : AB) (W1 : Nat) : Nat → Int32 := fun q => if q = 0 then nI (MW h (amn A) A.1 (A.1 ^ A.2.1) A.2.2.1 A.2.2.2.1 W1) else if q = 1 then nI (A.1 ^ A.2.1) else nI A.2.2.1
theorem mw_a {h mn : Nat → Int32} {A : AB} {W1 : Nat} (H : HT h) (hV : VAB A) (r : ROW A mn) (h1 : W1 ≤ 127) : f_X3_markedInWindow h mn (nI A.2.2.1) (nI A.1) (nI (A.1 ^ A.2.1)) (nI A.2.2.2.1) (nI W1) = some (AV h A W1 0) := by
  rw [mk_w hV.1 H (row_m hV r) hV.2.2.1 h1, mw_c (mn := amn A) (fun j hj => by
    rw [(r j hj).1, (r j hj).2, (amn_r A j hj).1, (amn_r A j hj).2]
    exact ⟨rfl, rfl⟩)]
  rfl
theorem af_v {h en mn sn bk tmn tsn ten tbk : Nat → Int32} {ek ev : Nat → Nat} {c W1 : Nat} {A : AB} {ss bs tms tss tes tbs tp te tM twr twp : Int32} (H : HT h) (hc : c ≤ 8) (hV : VAB A) (hE : ∀ i, i < c → EV (ek i) (ev i)) (hR : CEV en ek ev c) (hr : ROW A mn) (h1 : W1 ≤ 127) {q : Nat} (hq : q ≤ 2) : ∃ u, f_X6_after (nI q) h mn (nI A.2.2.1) sn ss en (nI c) bk bs (nI A.1) (nI A.2.1) (nI A.2.2.2.1) (nI W1) tmn tms tsn tss ten tes tbk tbs tp te tM twr twp = some u ∧ u.1 = AV h (ABs ek ev A c) W1 q := by
  unfold f_X6_after
  rw [if_neg (show ¬ f_X6_isWithin (nI q) 0 2 = 0 from iw_y (a := 0) (b := 2) (by omega) hq (by omega)), cff hV.1, ob_s]
  dsimp only
  obtain ⟨t1, a1, a2⟩ := af_a (A := A) hc hV hE hR (K := fun xc_o_trial_marks_numbers_24 xc_o_trial_marks_size_24 xc_o_trial_p_24 xc_o_trial_e_24 xc_o_trial_modulus_24 xc_o_trial_windowRow_24 => (if (nI q = 0) then (Option.bind (f_X3_markedInWindow h xc_o_trial_marks_numbers_24 xc_o_trial_marks_size_24 xc_o_trial_p_24 xc_o_trial_modulus_24 xc_o_trial_windowRow_24 (nI W1)) (fun u_11 => (some (u_11, xc_o_trial_marks_numbers_24, xc_o_trial_marks_size_24, va_cpy sn tsn 0 0 12, ss, va_cpy en ten 0 0 24, nI c, va_cpy bk tbk 0 0 24, bs, xc_o_trial_p_24, xc_o_trial_e_24, xc_o_trial_modulus_24, xc_o_trial_windowRow_24, nI W1)))) else (qn_ (if (¬ (nI q = (1 : Int32))) then xc_o_trial_marks_size_24 else xc_o_trial_modulus_24) (fun y_9 => (some (y_9, xc_o_trial_marks_numbers_24, xc_o_trial_marks_size_24, va_cpy sn tsn 0 0 12, ss, va_cpy en ten 0 0 24, nI c, va_cpy bk tbk 0 0 24, bs, xc_o_trial_p_24, xc_o_trial_e_24, xc_o_trial_modulus_24, xc_o_trial_windowRow_24, nI W1)))))) c 0 5000 (va_cpy mn tmn 0 0 18) (by omega) (by omega) (fun j hj => by
    have := hV.2.1
    have hj : j < A.2.2.1 := hj
    rw [cy_ (by omega), cy_ (by omega)]
    exact hr j hj)
  have hVc := abs_v hV hE c (Nat.le_refl _)
  refine ⟨(AV h (ABs ek ev A c) W1 q, t1, nI (ABs ek ev A c).2.2.1, va_cpy sn tsn 0 0 12, ss, va_cpy en ten 0 0 24, nI c, va_cpy bk tbk 0 0 24, bs, nI (ABs ek ev A c).1, nI (ABs ek ev A c).2.1, nI ((ABs ek ev A c).1 ^ (ABs ek ev A c).2.1), nI (ABs ek ev A c).2.2.2.1, nI W1), a2.trans ?_, rfl⟩
  have e : q = 0 ∨ q = 1 ∨ q = 2 := by omega
  rcases e with rfl | rfl | rfl
  · rw [if_pos (show nI 0 = (0 : Int32) from rfl), mw_a H hVc a1 h1, ob_s]
  · rw [if_neg (show ¬ nI 1 = (0 : Int32) by decide), if_neg (show ¬ ¬ nI 1 = (1 : Int32) from fun z => z rfl), qn_s]
    rfl
  · rw [if_neg (show ¬ nI 2 = (0 : Int32) by decide), if_pos (show ¬ nI 2 = (1 : Int32) by decide), qn_s]
    rfl
