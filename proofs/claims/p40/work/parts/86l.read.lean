/-! the whole text: its fault, then its clauses one after another -/
def EX (tx ty : Nat → Int32) (L : Nat) (cn : Nat → Int32) : Nat → Nat → Nat → Prop
  | 0, _, _ => False
  | m + 1, s, x => ∃ x', PR tx ty L x true x' (cn (3 * s)) (cn (3 * s + 1)) (cn (3 * s + 2)) ∧ ((m = 0 ∧ x' = L) ∨ (m ≠ 0 ∧ x' < L ∧ EX tx ty L cn m (s + 1) (x' + 1)))
section READ
variable {tx ty : Nat → Int32} {L : Nat}
theorem fl_x {x n : Nat} {f : Nat} {k : Int32 → Int32 → Int32 → Int32 → Option (Int32 × Int32 × Int32 × Int32 × Int32)} {l1 f1 s1 : Int32} : f_X7_fault_L9 k ty (nI L) (f + 1) (nI n) 0 (nI x) l1 f1 s1 = k (nI x) l1 f1 s1 := by
  rw [f_X7_fault_L9_s, if_pos rfl]
def KK (L : Nat) : Int32 → Int32 → Int32 → Int32 → Option (Int32 × Int32 × Int32 × Int32 × Int32) := fun a b c d => some ((if nI L ≤ a then -1 else a), a, b, c, d)
theorem ft_ (R : OKT tx ty L) (k6 : (Nat → Int32) → Int32 → Int32 → Option (Int32 × (Nat → Int32) × Int32 × Int32)) : ∀ (d s x f f' : Nat) (cn : Nat → Int32) (l0 f0 s0 : Int32), s + d = 12 → 0 < d → x ≤ L → d < f → d + 1 < f' → ∃ F cn' n nx pl l1 f1 s1, f_X2_faultOfText_L14 k6 tx (nI L) f (nI s) cn (nI s) (nI x) = some (F, cn', nI n, nx) ∧ f_X7_fault_L9 (KK L) ty (nI L) f' (nI s) 1 (nI x) l0 f0 s0 = some (F, pl, l1, f1, s1) ∧ (∀ j, j < 3 * s → cn' j = cn j) ∧ (F = -1 → s < n ∧ n ≤ 12 ∧ EX tx ty L cn' (n - s) s x) := by
  have hL := R.1
  have hR : ∀ j, j < L → tx j = ty j := fun j hj => (R.2 j hj).1
  intro d
  induction d with
  | zero =>
    intro s x f f' cn l0 f0 s0 _ h
    omega
  | succ d ih =>
    intro s x f f' cn l0 f0 s0 hs _ hx hf hf'
    obtain ⟨f, rfl⟩ : ∃ g, f = g + 1 := ⟨f - 1, by omega⟩
    obtain ⟨f', rfl⟩ : ∃ g, f' = g + 1 := ⟨f' - 1, by omega⟩
    obtain ⟨ok, x', l, a, b, p1, p2, p3, p4, p5⟩ := pr_ R hx
    obtain ⟨l1, f1, s1, q1, q2⟩ := p5 l0 f0 s0
    have e6 := p4 cn s (by omega)
    rw [f_X2_faultOfText_L14_s, zl_12, if_neg (le_f (by omega) (by omega)), e6, ob_s, f_X7_fault_L9_s, if_neg (show ¬ (1 : Int32) = 0 by decide), q1, ob_s]
    cases ok with
    | false =>
      exact ⟨nI x', cn, s, nI x', _, _, _, _, by rw [if_pos (show bI false = 0 from rfl)]; rfl, by rw [if_pos (show bI false = 0 from rfl)], fun j _ => rfl, fun z => absurd z (m1_f (by omega))⟩
    | true =>
      have hp := p3 rfl
      rw [if_neg (show ¬ bI true = 0 by decide), if_neg (show ¬ bI true = 0 by decide)]
      have u3 : ∀ j, j < 3 * s → up3 cn s l a b j = cn j := fun j hj => u3_n hj
      by_cases c : x' < L
      · rw [if_pos (show nI x' < nI L from nI_lt c (by omega))]
        by_cases c2 : s = 11
        · subst c2
          obtain ⟨f', rfl⟩ : ∃ g, f' = g + 1 := ⟨f' - 1, by omega⟩
          refine ⟨nI x', up3 cn 11 l a b, 12, nI x', nI x', l1, f1, s1, ?_, ?_, u3, fun z => absurd z (m1_f (by omega))⟩
          · rw [if_pos (show nI 11 = 11 from rfl)]
            rfl
          · rw [if_pos (show (12 : Int32) ≤ nI 11 + 1 by decide), if_neg (show ¬ ¬ (0 : Int32) = 0 from fun z => z rfl), show nI 11 + 1 = nI 12 by decide, Int32.add_zero, fl_x]
            unfold KK
            rw [if_neg (le_f c (by omega))]
        · rw [if_neg (show ¬ nI s = 11 from eq_f (b := 11) c2 (by omega) (by omega)), if_neg (show ¬ (12 : Int32) ≤ nI s + 1 by rw [nI_1]; exact le_f (a := 12) (by omega) (by omega))]
          rw [show f_X2_take 59 tx (nI L) (nI x') = _ from tk_ hL (by omega) 59, ob_s, sg_7 hL hR (by omega), ob_s, qn_s]
          by_cases c3 : sg tx L x' = 59
          · rw [if_pos c3, if_neg (show ¬ (1 : Int32) = 0 by decide), if_pos c3, if_pos (show ¬ (1 : Int32) = 0 by decide), nI_1 s]
            obtain ⟨F, cn', n, nx, pl, l2, f2, s2, r1, r2, r3, r4⟩ := ih (s + 1) (x' + 1) f f' (up3 cn s l a b) l1 f1 s1 (by omega) (by omega) (by omega) (by omega) (by omega)
            rw [← nI_1 x'] at r2
            refine ⟨F, cn', n, nx, pl, l2, f2, s2, r1, r2, fun j hj => by rw [r3 j (by omega), u3 j hj], fun z => ?_⟩
            obtain ⟨w1, w2, w3⟩ := r4 z
            refine ⟨by omega, w2, ?_⟩
            rw [show n - s = (n - (s + 1)) + 1 by omega]
            refine ⟨x', ?_, Or.inr ⟨by omega, c, w3⟩⟩
            rw [r3 (3 * s) (by omega), r3 (3 * s + 1) (by omega), r3 (3 * s + 2) (by omega), u3_0, u3_1, u3_2]
            exact ⟨p1, p2, p3, p4, p5⟩
          · obtain ⟨f', rfl⟩ : ∃ g, f' = g + 1 := ⟨f' - 1, by omega⟩
            refine ⟨nI x', up3 cn s l a b, s + 1, nI x', nI x', l1, f1, s1, ?_, ?_, u3, fun z => absurd z (m1_f (by omega))⟩
            · rw [if_neg c3, if_neg c3, if_pos rfl]
              rfl
            · rw [if_neg c3, if_neg (show ¬ ¬ (0 : Int32) = 0 from fun z => z rfl), nI_1, Int32.add_zero, fl_x]
              unfold KK
              rw [if_neg (le_f c (by omega))]
      · have eL : x' = L := by omega
        rw [if_neg (show ¬ nI x' < nI L from nI_nlt (by omega) (by omega))]
        obtain ⟨f', rfl⟩ : ∃ g, f' = g + 1 := ⟨f' - 1, by omega⟩
        refine ⟨-1, up3 cn s l a b, s + 1, nI x', nI x', l1, f1, s1, rfl, ?_, u3, fun _ => ⟨by omega, by omega, ?_⟩⟩
        · by_cases c2 : s = 11
          · subst c2
            rw [if_pos (show (12 : Int32) ≤ nI 11 + 1 by decide), if_neg (show ¬ ¬ (0 : Int32) = 0 from fun z => z rfl), nI_1, Int32.add_zero, fl_x]
            unfold KK
            rw [if_pos (le_t (by omega) (by omega))]
          · have c3 : ¬ sg tx L x' = 59 := by
              unfold sg
              rw [if_neg c]
              decide
            rw [if_neg (show ¬ (12 : Int32) ≤ nI s + 1 by rw [nI_1]; exact le_f (a := 12) (by omega) (by omega)), sg_7 hL hR (by omega), ob_s, qn_s, if_neg c3, if_neg (show ¬ ¬ (0 : Int32) = 0 from fun z => z rfl), nI_1, Int32.add_zero, fl_x]
            unfold KK
            rw [if_pos (le_t (by omega) (by omega))]
        · rw [show s + 1 - s = 0 + 1 by omega]
          refine ⟨x', ?_, Or.inl ⟨rfl, eL⟩⟩
          rw [u3_0, u3_1, u3_2]
          exact ⟨p1, p2, p3, p4, p5⟩
end READ
section DOES
variable {mn : Nat → Int32} {ms : Int32} {sn : Nat → Int32} {ss : Int32} {en : Nat → Int32} {es : Int32} {bk : Nat → Int32} {bs p e M wr wp : Int32} {g : Nat → Int32}
theorem dc_ (S : SX mn ms sn ss en es bk bs p e M wr wp g) {l a b l1 f1 s1 : Int32} (c : CLA l a b l1 f1 s1) : ∃ r mn' ms' p' e' M' wr' wp' g', SX mn' ms' sn ss en es bk bs p' e' M' wr' wp' g' ∧ f_X6_doClause l a b mn ms p e M wr wp = some (r, mn', ms', p', e', M', wr', wp') ∧ f_X7_isDone g l1 f1 s1 = some (if ¬ r < 0 then 1 else 0, g') := by
  obtain ⟨rfl, c⟩ := c
  unfold f_X6_doClause f_X7_isDone
  rcases c with ⟨rfl, rfl⟩ | ⟨rfl, rfl⟩ | ⟨rfl, rfl, rfl⟩ | rfl | ⟨rfl, rfl, rfl⟩
  · obtain ⟨r, p', e', M', g', h1, h2, h3⟩ := pm_prime S f1
    refine ⟨r, mn, ms, p', e', M', wr, wp, g', h1, ?_, ?_⟩
    · rw [if_neg (by decide), if_neg (by decide), if_pos rfl, h2, ob_s]
    · rw [if_neg (by decide), if_neg (by decide), if_pos rfl, h3, ob_s]
  · obtain ⟨r, p', e', M', g', h1, h2, h3⟩ := pm_power_ S f1
    refine ⟨r, mn, ms, p', e', M', wr, wp, g', h1, ?_, ?_⟩
    · rw [if_pos rfl, h2, ob_s]
    · rw [if_pos rfl, h3, ob_s]
  · obtain ⟨r, mn', ms', g', h1, h2, h3⟩ := pm_mark S f1 s1
    refine ⟨r, mn', ms', p, e, M, wr, wp, g', h1, ?_, ?_⟩
    · rw [if_neg (by decide), if_pos rfl, h2, ob_s]
    · rw [if_neg (by decide), if_pos rfl, h3, ob_s]
  · obtain ⟨r, ms', g', h1, h2, h3, _⟩ := pm_clear S
    refine ⟨r, mn, ms', p, e, M, wr, wp, g', h1, ?_, ?_⟩
    · rw [if_neg (by decide), if_neg (by decide), if_neg (by decide), if_neg (by decide), h2, ob_s]
    · rw [if_neg (by decide), if_neg (by decide), if_neg (by decide), if_pos rfl, h3, ob_s]
  · obtain ⟨r, wr', wp', g', h1, h2, h3⟩ := pm_window S f1 s1
    refine ⟨r, mn, ms, p, e, M, wr', wp', g', h1, ?_, ?_⟩
    · rw [if_neg (by decide), if_neg (by decide), if_neg (by decide), if_pos rfl, h2, ob_s]
    · rw [if_neg (by decide), if_neg (by decide), if_neg (by decide), if_neg (by decide), h3, ob_s]
end DOES
theorem ex_ {tx ty : Nat → Int32} {L : Nat} (R : OKT tx ty L) {cn sn en bk : Nat → Int32} {ss es bs : Int32} {n : Nat} (hn : n ≤ 12) {α β : Type} (k6 : Int32 → (Nat → Int32) → Int32 → Int32 → Int32 → Int32 → Int32 → Int32 → Option (Int32 × (Nat → Int32) × Int32 × Int32 × Int32 × Int32 × Int32 × Int32 × (Nat → Int32) × Int32 × Int32 × Int32)) (k7 : Int32 → (Nat → Int32) → Int32 → Int32 → Int32 → Int32 → Option (Int32 × (Nat → Int32) × Int32 × Int32 × Int32 × Int32 × Int32)) : ∀ (m s x f f' : Nat) (z : Int32) (mn : Nat → Int32) (ms p e M wr wp : Int32) (g : Nat → Int32) (l0 f0 s0 : Int32), s + m = n → SX mn ms sn ss en es bk bs p e M wr wp g → (m = 0 → L ≤ x ∧ x ≤ 1000) → (m ≠ 0 → x < L ∧ EX tx ty L cn m s x) → m < f → m < f' → ∃ r mn' ms' p' e' M' wr' wp' g' pl l1 f1 s1, SX mn' ms' sn ss en es bk bs p' e' M' wr' wp' g' ∧ f_X6_read_L29 k6 cn (nI n) f z (nI s) mn ms p e M wr wp = k6 r mn' ms' p' e' M' wr' wp' ∧ f_X7_read_L12 k7 (-1) (nI L) ty f' z g (nI x) l0 f0 s0 = k7 r g' pl l1 f1 s1 := by
  have hL := R.1
  intro m
  induction m with
  | zero =>
    intro s x f f' z mn ms p e M wr wp g l0 f0 s0 hs S h0 h1 hf hf'
    obtain ⟨f, rfl⟩ : ∃ g, f = g + 1 := ⟨f - 1, by omega⟩
    obtain ⟨f', rfl⟩ : ∃ g, f' = g + 1 := ⟨f' - 1, by omega⟩
    have h0' := h0 rfl
    refine ⟨z, mn, ms, p, e, M, wr, wp, g, nI x, l0, f0, s0, S, ?_, ?_⟩
    · rw [f_X6_read_L29_s, if_pos (le_t (by omega) (by omega))]
    · rw [f_X7_read_L12_s, if_neg (fun w => w.2 (le_t (by omega) (by omega)))]
  | succ m ih =>
    intro s x f f' z mn ms p e M wr wp g l0 f0 s0 hs S h0 h1 hf hf'
    obtain ⟨f, rfl⟩ : ∃ g, f = g + 1 := ⟨f - 1, by omega⟩
    obtain ⟨f', rfl⟩ : ∃ g, f' = g + 1 := ⟨f' - 1, by omega⟩
    obtain ⟨hx, x', ⟨p1, p2, p3, p4, p5⟩, nx⟩ := h1 (by omega)
    obtain ⟨l1, f1, s1, q1, q2⟩ := p5 l0 f0 s0
    obtain ⟨r, mn', ms', p', e', M', wr', wp', g', S', d6, d7⟩ := dc_ S (q2 rfl)
    have hp := p3 rfl
    have st6 : f_X6_read_L29 k6 cn (nI n) (f + 1) z (nI s) mn ms p e M wr wp = f_X6_read_L29 k6 cn (nI n) f (if r < 0 then z else z + 1) (nI (s + 1)) mn' ms' p' e' M' wr' wp' := by
      rw [f_X6_read_L29_s, if_neg (le_f (by omega) (by omega))]
      rw [show f_X1_number (nI s) 0 36 cn (nI n) = some (cn (3 * s)) from nu_ (j := 0) (by omega) (by omega) (by omega) (by omega) (by omega), show f_X1_number (nI s) 1 36 cn (nI n) = some (cn (3 * s + 1)) from nu_ (j := 1) (by omega) (by omega) (by omega) (by omega) (by omega), show f_X1_number (nI s) 2 36 cn (nI n) = some (cn (3 * s + 2)) from nu_ (j := 2) (by omega) (by omega) (by omega) (by omega) (by omega)]
      rw [ob_s, ob_s, ob_s, d6, ob_s, nI_1]
    have st7 : f_X7_read_L12 k7 (-1) (nI L) ty (f' + 1) z g (nI x) l0 f0 s0 = f_X7_read_L12 k7 (-1) (nI L) ty f' (if r < 0 then z else z + 1) g' (nI (x' + 1)) l1 f1 s1 := by
      rw [f_X7_read_L12_s, if_pos ⟨rfl, le_f hx (by omega)⟩, q1, ob_s, if_neg (show ¬ bI true = 0 by decide), d7, ob_s, nI_1]
      by_cases w : r < 0
      · rw [if_neg (show ¬ ¬ r < 0 from fun q => q w), if_pos w, if_neg (show ¬ ¬ (0 : Int32) = 0 from fun q => q rfl), Int32.add_zero]
      · rw [if_pos (show ¬ r < 0 from w), if_neg w, if_pos (show ¬ (1 : Int32) = 0 by decide)]
    rw [st6, st7]
    refine ih (s + 1) (x' + 1) f f' _ mn' ms' p' e' M' wr' wp' g' l1 f1 s1 (by omega) S' (fun w => ?_) (fun w => ?_) (by omega) (by omega)
    · rcases nx with ⟨_, e⟩ | ⟨e, _⟩
      · omega
      · exact absurd w e
    · rcases nx with ⟨e, _⟩ | ⟨_, e1, e2⟩
      · exact absurd e w
      · refine ⟨?_, e2⟩
        cases m with
        | zero => exact absurd rfl w
        | succ m =>
          obtain ⟨x'', ⟨r1, r2, r3, _⟩, _⟩ := e2
          have := r3 rfl
          omega
section READS
variable {mn : Nat → Int32} {ms : Int32} {sn : Nat → Int32} {ss : Int32} {en : Nat → Int32} {es : Int32} {bk : Nat → Int32} {bs p e M wr wp : Int32} {g : Nat → Int32}
theorem pm_read {tx ty cn : Nat → Int32} {len fd cs nx pl l0 f0 s0 : Int32} (S : SX mn ms sn ss en es bk bs p e M wr wp g) (R : RC tx len ty fd) : ∃ r mn' ms' p' e' M' wr' wp' cn' cs' len' nx' g' fd' pl' l1 f1 s1, SX mn' ms' sn ss en es bk bs p' e' M' wr' wp' g' ∧ RC tx len' ty fd' ∧ f_X6_read mn ms p e M wr wp tx cn cs len nx = some (r, mn', ms', p', e', M', wr', wp', cn', cs', len', nx') ∧ f_X7_read g ty fd pl l0 f0 s0 = some (r, g', fd', pl', l1, f1, s1) := by
  obtain ⟨L, hL, rfl, rfl, hR⟩ := R
  have O : OKT tx ty L := ⟨hL, hR⟩
  have R0 : RC tx (nI 0) ty (nI 0) := ⟨0, by omega, rfl, rfl, fun j hj => by omega⟩
  unfold f_X6_read f_X7_read f_X2_faultOfText f_X1_empty f_X7_fault f_X2_emptyText
  obtain ⟨F, cn', n, nx1, pl1, l1, f1, s1, r1, r2, _, r4⟩ := ft_ O (fun xc_o_clauses_numbers_14 xc_o_clauses_size_14 xc_o_next_14 => (some (xc_o_next_14, xc_o_clauses_numbers_14, xc_o_clauses_size_14, xc_o_next_14))) 12 0 0 5000 5000 cn l0 f0 s0 (by omega) (by omega) (by omega) (by omega) (by omega)
  rw [ob_s]
  rw [show f_X2_faultOfText_L14 (fun xc_o_clauses_numbers_14 xc_o_clauses_size_14 xc_o_next_14 => (some (xc_o_next_14, xc_o_clauses_numbers_14, xc_o_clauses_size_14, xc_o_next_14))) tx (nI L) 5000 0 cn 0 0 = some (F, cn', nI n, nx1) from r1]
  rw [show f_X7_fault_L9 (fun xc_o_place_9 xc_o_letter_9 xc_o_first_9 xc_o_second_9 => (some ((if (nI L ≤ xc_o_place_9) then (-1) else xc_o_place_9), xc_o_place_9, xc_o_letter_9, xc_o_first_9, xc_o_second_9))) ty (nI L) 5000 0 1 0 l0 f0 s0 = some (F, pl1, l1, f1, s1) from r2]
  rw [ob_s, ob_s, ob_s]
  by_cases z : F = -1
  · rw [if_pos z]
    obtain ⟨w1, w2, w3⟩ := r4 z
    have hx : 0 < L := by
      obtain ⟨m, e⟩ : ∃ m, n - 0 = m + 1 := ⟨n - 1, by omega⟩
      rw [e] at w3
      obtain ⟨x'', ⟨r1, r2, r3, _⟩, _⟩ := w3
      have := r3 rfl
      omega
    obtain ⟨r, mn', ms', p', e', M', wr', wp', g', pl', l2, f2, s2, S', x6, x7⟩ := ex_ (α := Nat) (β := Nat) O w2 (fun x2_29 xc_o_now_marks_numbers_29 xc_o_now_marks_size_29 xc_o_now_p_29 xc_o_now_e_29 xc_o_now_modulus_29 xc_o_now_windowRow_29 xc_o_now_windowPlace_29 => (some (x2_29, xc_o_now_marks_numbers_29, xc_o_now_marks_size_29, xc_o_now_p_29, xc_o_now_e_29, xc_o_now_modulus_29, xc_o_now_windowRow_29, xc_o_now_windowPlace_29, cn', nI n, 0, nx1))) (fun x2_12 xc_o_g_12 xc_o_place_12 xc_o_letter_12 xc_o_first_12 xc_o_second_12 => (qn_ (if (¬ (F = -1)) then ((-10) - F) else x2_12) (fun y_14 => (some (y_14, xc_o_g_12, 0, xc_o_place_12, xc_o_letter_12, xc_o_first_12, xc_o_second_12))))) n 0 0 5000 5000 0 mn ms p e M wr wp g l1 f1 s1 (by omega) S (fun w => by omega) (fun _ => ⟨hx, w3⟩) (by omega) (by omega)
    refine ⟨r, mn', ms', p', e', M', wr', wp', cn', nI n, 0, nx1, g', 0, pl', l2, f2, s2, S', R0, x6, ?_⟩
    rw [qn_s, if_neg (fun q => q z)] at x7
    rw [← x7]
    subst z
    rfl
  · rw [if_neg z]
    refine ⟨-10 - F, mn, ms, p, e, M, wr, wp, cn', nI n, 0, nx1, g, 0, 0, l1, f1, s1, S, R0, rfl, ?_⟩
    rw [show (5000 : Nat) = 4999 + 1 from rfl, f_X7_read_L12_s, if_neg (fun q => z q.1), qn_s, if_pos z]
end READS
