/-! marks -/
theorem nu_ {f : Nat → Int32} {i j a n : Nat} (hi : i < a) (ha : a ≤ 12) (hj : j ≤ 2) (hn : 3 * a ≤ n) (hn2 : n ≤ 36) : f_X1_number (nI i) (nI j) n f (nI a) = some (f (3 * i + j)) := by
  unfold f_X1_number
  simp only [zl_0, zl_1, zl_2, zl_3]
  rw [pk_sub (by omega), if_neg (fun z => z.elim (iw_y (by omega) (by omega) (by omega)) (iw_y (by omega) (by omega) (by omega))), pk_mul, nI_add, zo_, if_pos ⟨nI_nlt (by omega) (by omega), le_f (by omega) (by omega)⟩, rd_n (by omega) (by omega), ob_s]
/-- marks: the class's lines beside the model's ints -/
def CM (a : Nat) (mn g : Nat → Int32) : Prop := a ≤ 6 ∧ g 4 = nI a ∧ ∀ i, i < a → g (5 + 2 * i) = mn (3 * i) ∧ g (6 + 2 * i) = mn (3 * i + 1) ∧ ∃ k, k ≤ 4 ∧ mn (3 * i) = nI k
theorem nI_ex {x : Int32} {k : Nat} (h : x = nI k) (hk : k < 2 ^ 31) : x.toNatClampNeg = k := by rw [h, nI_clamp hk]
def mm (h mn : Nat → Int32) (P M r c : Nat) : Nat → Bool
  | 0 => false
  | i + 1 => mm h mn P M r c i || decide (TV h P M (mn (3 * i)).toNatClampNeg r c = mn (3 * i + 1))
theorem mm_t {h mn : Nat → Int32} {P M r c i : Nat} (q : mm h mn P M r c i = true) : ∀ e, mm h mn P M r c (i + e) = true
  | 0 => q
  | e + 1 => by
    show (mm h mn P M r c (i + e) || _) = true
    rw [mm_t q e]
    rfl
def MK (h mn : Nat → Int32) (P M a r c : Nat) : Bool := if r ≤ 127 ∧ c ≤ r then mm h mn P M r c a else false
section MARKS
variable {P E a : Nat} {h g mn : Nat → Int32} {t : TR}
theorem pl_f {r c : Nat} (hr : r < 2 ^ 31) (hc : c < 2 ^ 31) (q : ¬ (r ≤ 127 ∧ c ≤ r)) : f_X6_isPlace (nI r) (nI c) = 0 := by
  by_cases z : f_X6_isPlace (nI r) (nI c) = 0
  · exact z
  · obtain ⟨r', c', e1, e2, l1, l2⟩ := pl_n z
    have := (nI_eq hr (by omega)).mp e1
    have := (nI_eq hc (by omega)).mp e2
    omega
theorem im_6 (s : SET P E h g) (m : CM a mn g) {r c : Nat} (hr : r < 2 ^ 31) (hc : c < 2 ^ 31) : f_X3_isMarked (nI r) (nI c) h mn (nI a) (nI P) (nI (P ^ E)) = some (bI (MK h mn P (P ^ E) a r c)) := by
  unfold f_X3_isMarked MK
  by_cases q : r ≤ 127 ∧ c ≤ r
  · rw [pl_y q.1 q.2, if_neg (by decide), if_pos q]
    have ha := m.1
    refine lp_ (σ := Unit) (fun f i _ => f_X3_isMarked_L12 (some 0) (nI r) (nI c) h mn (nI a) (nI P) (nI (P ^ E)) f (nI i)) (fun i _ => mm h mn P (P ^ E) r c i = false) a (fun o => o = some (bI (mm h mn P (P ^ E) r c a))) ?_ ?_ a 0 5000 () (by omega) (by omega) rfl
    · intro f i _ hi hI
      obtain ⟨e1, e2, k, hk, e3⟩ := m.2.2 i hi
      have st : f_X3_isMarked_L12 (some 0) (nI r) (nI c) h mn (nI a) (nI P) (nI (P ^ E)) (f + 1) (nI i) = if TV h P (P ^ E) k r c = mn (3 * i + 1) then some 1 else f_X3_isMarked_L12 (some 0) (nI r) (nI c) h mn (nI a) (nI P) (nI (P ^ E)) f (nI (i + 1)) := by
        rw [f_X3_isMarked_L12_s, if_neg (le_f (by omega) (by omega))]
        rw [show f_X1_number (nI i) 0 18 mn (nI a) = some (mn (3 * i)) from nu_ (j := 0) hi (by omega) (by omega) (by omega) (by omega)]
        rw [show f_X1_number (nI i) 1 18 mn (nI a) = some (mn (3 * i + 1)) from nu_ (j := 1) hi (by omega) (by omega) (by omega) (by omega)]
        rw [ob_s, e3, tv_c s hk q.1 q.2, ob_s, ob_s, nI_1]
      have e4 : mm h mn P (P ^ E) r c (i + 1) = decide (TV h P (P ^ E) k r c = mn (3 * i + 1)) := by
        show (mm h mn P (P ^ E) r c i || decide (TV h P (P ^ E) (mn (3 * i)).toNatClampNeg r c = mn (3 * i + 1))) = _
        rw [hI, nI_ex e3 (by omega)]
        rfl
      by_cases z : TV h P (P ^ E) k r c = mn (3 * i + 1)
      · refine Or.inl ?_
        have := mm_t (e4.trans (decide_eq_true z)) (a - (i + 1))
        rw [show i + 1 + (a - (i + 1)) = a by omega] at this
        show f_X3_isMarked_L12 _ _ _ _ _ _ _ _ (f + 1) (nI i) = _
        rw [st, if_pos z, this]
        rfl
      · refine Or.inr ⟨(), e4.trans (decide_eq_false z), ?_⟩
        show f_X3_isMarked_L12 _ _ _ _ _ _ _ _ (f + 1) (nI i) = _
        rw [st, if_neg z]
    · intro f _ hI
      show f_X3_isMarked_L12 _ _ _ _ _ _ _ _ (f + 1) (nI a) = _
      rw [f_X3_isMarked_L12_s, if_pos (le_t (by omega) (by omega)), hI]
      rfl
  · rw [pl_f hr hc q, if_pos rfl, if_neg q]
    rfl
theorem im_7 (s : SET P E h g) (m : CM a mn g) (hO : OK t) {r c : Nat} (hr : r < 2 ^ 31) (hc : c < 2 ^ 31) : ∃ t', OK t' ∧ f_X7_isMarked (nI r) (nI c) g t.1 t.2 = some (bI (MK h mn P (P ^ E) a r c), t'.1, t'.2) := by
  unfold f_X7_isMarked MK
  have ha := m.1
  have hm := s.1.m
  by_cases q : r ≤ 127 ∧ c ≤ r
  · rw [if_pos q]
    refine ldt_ (τ := TR) OK (fun f i t => f_X7_isMarked_L5 (fun x y z => Option.bind (bz_ x) (fun _ => some (x, y, z))) (nI r) (nI c) g f (bI (mm h mn P (P ^ E) r c i)) (nI i) t.1 t.2) a (fun o => ∃ t', OK t' ∧ o = some (bI (mm h mn P (P ^ E) r c a), t'.1, t'.2)) ?_ ?_ a 0 5000 t (by omega) (by omega) hO
    · intro f i t hi hO
      obtain ⟨e1, e2, k, hk, e3⟩ := m.2.2 i hi
      obtain ⟨_, t', a1, b1⟩ := tv_ s hO hk q.1 q.2
      refine ⟨t', a1, ?_⟩
      show f_X7_isMarked_L5 _ _ _ _ (f + 1) _ (nI i) t.1 t.2 = f_X7_isMarked_L5 _ _ _ _ f (bI (mm h mn P (P ^ E) r c i || decide (TV h P (P ^ E) (mn (3 * i)).toNatClampNeg r c = mn (3 * i + 1)))) (nI (i + 1)) t'.1 t'.2
      rw [f_X7_isMarked_L5_s, show rd_ g 64 4 = some (g 4) from rd_n (j := 4) (by omega) (by omega), ob_s, m.2.1, pl_7, pl_y q.1 q.2, if_pos ⟨le_f (by omega) (by omega), by decide⟩]
      rw [show rd_ g 64 (5 + 2 * nI i) = some (g (5 + 2 * i)) from by rw [zl_5, zl_2, pk_mul, nI_add]; exact rd_n (by omega) (by omega)]
      rw [show rd_ g 64 (6 + 2 * nI i) = some (g (6 + 2 * i)) from by rw [zl_6, zl_2, pk_mul, nI_add]; exact rd_n (by omega) (by omega)]
      rw [ob_s, e1, e3, b1, ob_s, ob_s, e2, nI_1, nI_clamp (by omega), bI_or]
    · intro f t hO
      refine ⟨t, hO, ?_⟩
      show f_X7_isMarked_L5 _ _ _ _ (f + 1) _ (nI a) t.1 t.2 = _
      rw [f_X7_isMarked_L5_s, show rd_ g 64 4 = some (g 4) from rd_n (j := 4) (by omega) (by omega), ob_s, m.2.1, if_neg (fun z => z.1 (le_t (by omega) (by omega))), bz_b, ob_s]
  · rw [if_neg q]
    refine ⟨t, hO, ?_⟩
    rw [show (5000 : Nat) = 4999 + 1 from rfl, f_X7_isMarked_L5_s, show rd_ g 64 4 = some (g 4) from rd_n (j := 4) (by omega) (by omega), ob_s, pl_7, pl_f hr hc q, if_neg (fun z => z.2 rfl)]
    rfl
/-! the picture -/
def pb (m : Nat → Bool) : Nat → Int32
  | 0 => 0
  | c + 1 => if m c then pb m c ||| ((1 : Int32) <<< (nI c &&& 31)) else pb m c
theorem bI_0 (b : Bool) : bI b = 0 ↔ b = false := by cases b <;> decide
variable {W0 W1 : Nat}
theorem pr_6 (s : SET P E h g) (m : CM a mn g) (h0 : W0 ≤ 127) (h1 : W1 ≤ 127) {i : Nat} (hi : i ≤ 7) : f_X3_pictureRow (nI i) h mn (nI a) (nI P) (nI (P ^ E)) (nI W0) (nI W1) = some (pb (fun c => MK h mn P (P ^ E) a (W0 + i) (W1 + c)) 8) := by
  unfold f_X3_pictureRow
  refine ld_ (fun f c => f_X3_pictureRow_L4 (fun x => some x) (nI i) h mn (nI a) (nI P) (nI (P ^ E)) (nI W0) (nI W1) f (pb (fun c => MK h mn P (P ^ E) a (W0 + i) (W1 + c)) c) (nI c)) 8 _ ?_ ?_ 8 0 5000 (by omega) (by omega)
  · intro f c hc
    show f_X3_pictureRow_L4 _ _ _ _ _ _ _ _ _ (f + 1) _ (nI c) = f_X3_pictureRow_L4 _ _ _ _ _ _ _ _ _ f (if MK h mn P (P ^ E) a (W0 + i) (W1 + c) then _ else _) (nI (c + 1))
    rw [f_X3_pictureRow_L4_s, zl_8, if_neg (le_f (by omega) (by omega)), nI_add, nI_add, im_6 s m (by omega) (by omega), ob_s, qn_s, nI_1]
    cases MK h mn P (P ^ E) a (W0 + i) (W1 + c)
    · rfl
    · rfl
  · intro f
    show f_X3_pictureRow_L4 _ _ _ _ _ _ _ _ _ (f + 1) _ (nI 8) = _
    rw [f_X3_pictureRow_L4_s, zl_8, if_pos (le_t (by omega) (by omega))]
def GW (g : Nat → Int32) (W0 W1 : Nat) : Prop := W0 ≤ 127 ∧ W1 ≤ 127 ∧ g 2 = nI W0 ∧ g 3 = nI W1
theorem pr_7 (s : SET P E h g) (m : CM a mn g) (hO : OK t) (w : GW g W0 W1) {i : Nat} (hi : i ≤ 7) : ∃ t', OK t' ∧ f_X7_picture_L18 (fun x y z => some (x, y, z)) (nI i) g 5000 0 0 t.1 t.2 = some (pb (fun c => MK h mn P (P ^ E) a (W0 + i) (W1 + c)) 8, t'.1, t'.2) := by
  have h0 := w.1
  have h1 := w.2.1
  refine ldt_ (τ := TR) OK (fun f c t => f_X7_picture_L18 (fun x y z => some (x, y, z)) (nI i) g f (pb (fun c => MK h mn P (P ^ E) a (W0 + i) (W1 + c)) c) (nI c) t.1 t.2) 8 (fun o => ∃ t', OK t' ∧ o = some (pb (fun c => MK h mn P (P ^ E) a (W0 + i) (W1 + c)) 8, t'.1, t'.2)) ?_ ?_ 8 0 5000 t (by omega) (by omega) hO
  · intro f c t hc hO
    obtain ⟨t', a1, b1⟩ := im_7 s m hO (r := W0 + i) (c := W1 + c) (by omega) (by omega)
    refine ⟨t', a1, ?_⟩
    show f_X7_picture_L18 _ _ _ (f + 1) _ (nI c) t.1 t.2 = f_X7_picture_L18 _ _ _ f (if MK h mn P (P ^ E) a (W0 + i) (W1 + c) then _ else _) (nI (c + 1)) t'.1 t'.2
    rw [f_X7_picture_L18_s, zl_8, if_neg (le_f (by omega) (by omega)), show rd_ g 64 2 = some (g 2) from rd_n (j := 2) (by omega) (by omega), show rd_ g 64 3 = some (g 3) from rd_n (j := 3) (by omega) (by omega), ob_s, ob_s, w.2.2.1, w.2.2.2, nI_add, nI_add, b1, ob_s, qn_s, nI_1]
    cases MK h mn P (P ^ E) a (W0 + i) (W1 + c)
    · rw [if_pos (show (bI false, t'.1, t'.2).1 = 0 from rfl), Int32.or_zero]
      rfl
    · rfl
  · intro f t hO
    refine ⟨t, hO, ?_⟩
    show f_X7_picture_L18 _ _ _ (f + 1) _ (nI 8) t.1 t.2 = _
    rw [f_X7_picture_L18_s, zl_8, if_pos (le_t (by omega) (by omega))]
/-! how many are marked -/
def bN (b : Bool) : Nat := if b then 1 else 0
def sb (m : Nat → Bool) : Nat → Nat
  | 0 => 0
  | c + 1 => sb m c + bN (m c)
theorem bc_8 : ∀ b0 b1 b2 b3 b4 b5 b6 b7 : Bool, f_J6_bitCount_0f7a4 (pb (fun c => match c with | 0 => b0 | 1 => b1 | 2 => b2 | 3 => b3 | 4 => b4 | 5 => b5 | 6 => b6 | _ => b7) 8) = some (nI (sb (fun c => match c with | 0 => b0 | 1 => b1 | 2 => b2 | 3 => b3 | 4 => b4 | 5 => b5 | 6 => b6 | _ => b7) 8)) := by decide +kernel
theorem bc_ (m : Nat → Bool) : f_J6_bitCount_0f7a4 (pb m 8) = some (nI (sb m 8)) := bc_8 (m 0) (m 1) (m 2) (m 3) (m 4) (m 5) (m 6) (m 7)
def sw (m : Nat → Nat → Bool) : Nat → Nat
  | 0 => 0
  | i + 1 => sw m i + sb (m i) 8
def MW (h mn : Nat → Int32) (P M a W0 W1 : Nat) : Nat := sw (fun i c => MK h mn P M a (W0 + i) (W1 + c)) 8
theorem mw_6 (s : SET P E h g) (m : CM a mn g) (h0 : W0 ≤ 127) (h1 : W1 ≤ 127) : f_X3_markedInWindow h mn (nI a) (nI P) (nI (P ^ E)) (nI W0) (nI W1) = some (nI (MW h mn P (P ^ E) a W0 W1)) := by
  unfold f_X3_markedInWindow
  refine ld_ (fun f i => f_X3_markedInWindow_L4 (fun x => some x) h mn (nI a) (nI P) (nI (P ^ E)) (nI W0) (nI W1) f (nI (sw (fun i c => MK h mn P (P ^ E) a (W0 + i) (W1 + c)) i)) (nI i)) 8 _ ?_ ?_ 8 0 5000 (by omega) (by omega)
  · intro f i hi
    show f_X3_markedInWindow_L4 _ _ _ _ _ _ _ _ (f + 1) _ (nI i) = f_X3_markedInWindow_L4 _ _ _ _ _ _ _ _ f (nI (sw (fun i c => MK h mn P (P ^ E) a (W0 + i) (W1 + c)) i + sb (fun c => MK h mn P (P ^ E) a (W0 + i) (W1 + c)) 8)) (nI (i + 1))
    rw [f_X3_markedInWindow_L4_s, zl_8, if_neg (le_f (by omega) (by omega)), pr_6 s m h0 h1 (by omega), ob_s, bc_, ob_s, nI_add, nI_1]
  · intro f
    show f_X3_markedInWindow_L4 _ _ _ _ _ _ _ _ (f + 1) _ (nI 8) = _
    rw [f_X3_markedInWindow_L4_s, zl_8, if_pos (le_t (by omega) (by omega))]
    rfl
theorem mw_7 (s : SET P E h g) (m : CM a mn g) (hO : OK t) (w : GW g W0 W1) : ∃ t', OK t' ∧ f_X7_markedInWindow g t.1 t.2 = some (nI (MW h mn P (P ^ E) a W0 W1), t'.1, t'.2) := by
  have h0 := w.1
  have h1 := w.2.1
  unfold f_X7_markedInWindow
  refine ldt_ (τ := TR) OK (fun f i t => f_X7_markedInWindow_L4 (fun x y z => some (x, y, z)) g f (nI (sw (fun i c => MK h mn P (P ^ E) a (W0 + i) (W1 + c)) i)) (nI i) t.1 t.2) 8 (fun o => ∃ t', OK t' ∧ o = some (nI (MW h mn P (P ^ E) a W0 W1), t'.1, t'.2)) ?_ ?_ 8 0 5000 t (by omega) (by omega) hO
  · intro f i t hi hO
    have inner : ∀ (k : Int32 → (Nat → Int32) → Int32 → Option (Int32 × (Nat → Int32) × Int32)) (n : Nat) (t : TR), OK t → ∃ t', OK t' ∧ f_X7_markedInWindow_L12 k (nI i) g 5000 (nI n) 0 t.1 t.2 = k (nI (n + sb (fun c => MK h mn P (P ^ E) a (W0 + i) (W1 + c)) 8)) t'.1 t'.2 := by
      intro k n t hO
      refine ldt_ (τ := TR) OK (fun f c t => f_X7_markedInWindow_L12 k (nI i) g f (nI (n + sb (fun c => MK h mn P (P ^ E) a (W0 + i) (W1 + c)) c)) (nI c) t.1 t.2) 8 (fun o => ∃ t', OK t' ∧ o = k (nI (n + sb (fun c => MK h mn P (P ^ E) a (W0 + i) (W1 + c)) 8)) t'.1 t'.2) ?_ ?_ 8 0 5000 t (by omega) (by omega) hO
      · intro f c t hc hO
        obtain ⟨t', a1, b1⟩ := im_7 s m hO (r := W0 + i) (c := W1 + c) (by omega) (by omega)
        refine ⟨t', a1, ?_⟩
        show f_X7_markedInWindow_L12 _ _ _ (f + 1) _ (nI c) t.1 t.2 = f_X7_markedInWindow_L12 _ _ _ f (nI (n + (sb (fun c => MK h mn P (P ^ E) a (W0 + i) (W1 + c)) c + bN (MK h mn P (P ^ E) a (W0 + i) (W1 + c))))) (nI (c + 1)) t'.1 t'.2
        rw [f_X7_markedInWindow_L12_s, zl_8, if_neg (le_f (by omega) (by omega)), show rd_ g 64 2 = some (g 2) from rd_n (j := 2) (by omega) (by omega), show rd_ g 64 3 = some (g 3) from rd_n (j := 3) (by omega) (by omega), ob_s, ob_s, w.2.2.1, w.2.2.2, nI_add, nI_add, b1, ob_s, nI_1, bI_c, show bI (MK h mn P (P ^ E) a (W0 + i) (W1 + c)) = nI (bN (MK h mn P (P ^ E) a (W0 + i) (W1 + c))) from by cases MK h mn P (P ^ E) a (W0 + i) (W1 + c) <;> rfl, nI_add, Nat.add_assoc]
      · intro f t hO
        refine ⟨t, hO, ?_⟩
        show f_X7_markedInWindow_L12 _ _ _ (f + 1) _ (nI 8) t.1 t.2 = _
        rw [f_X7_markedInWindow_L12_s, zl_8, if_pos (le_t (by omega) (by omega))]
    obtain ⟨t', a1, b1⟩ := inner (fun x y z => f_X7_markedInWindow_L4 (fun x y z => some (x, y, z)) g f x (nI (i + 1)) y z) (sw (fun i c => MK h mn P (P ^ E) a (W0 + i) (W1 + c)) i) t hO
    refine ⟨t', a1, ?_⟩
    show f_X7_markedInWindow_L4 _ _ (f + 1) _ (nI i) t.1 t.2 = f_X7_markedInWindow_L4 _ _ f (nI (sw (fun i c => MK h mn P (P ^ E) a (W0 + i) (W1 + c)) i + sb (fun c => MK h mn P (P ^ E) a (W0 + i) (W1 + c)) 8)) (nI (i + 1)) t'.1 t'.2
    rw [f_X7_markedInWindow_L4_s, zl_8, if_neg (le_f (by omega) (by omega)), nI_1]
    exact b1
  · intro f t hO
    refine ⟨t, hO, ?_⟩
    show f_X7_markedInWindow_L4 _ _ (f + 1) _ (nI 8) t.1 t.2 = _
    rw [f_X7_markedInWindow_L4_s, zl_8, if_pos (le_t (by omega) (by omega))]
    rfl
end MARKS
/-! greatest common divisors -/
theorem gc_h {l x : Nat} (hx : 0 < x) (h : x ≤ l) : 2 * (l % x) < l ∨ l % x = 0 := by
  have a := Nat.mod_lt l hx
  have b := Nat.div_add_mod l x
  have c : 1 ≤ l / x := Nat.div_pos h hx
  have d : x * 1 ≤ x * (l / x) := Nat.mul_le_mul_left x c
  omega
theorem gc_6 : ∀ (t i f a b : Nat), b < 2 ^ t → a < 2 ^ 30 → b < 2 ^ 30 → i + 2 * t ≤ 64 → 2 * t < f → f_X0_commonDivisor_L7 (fun x => some x) f (nI a) (nI b) (nI i) = some (nI (Nat.gcd a b)) := by
  intro t
  induction t with
  | zero =>
    intro i f a b hb ha hb2 hi hf
    obtain ⟨f, rfl⟩ : ∃ g, f = g + 1 := ⟨f - 1, by omega⟩
    have e : b = 0 := by omega
    subst e
    rw [f_X0_commonDivisor_L7_s, zl_0, if_neg (fun z => z.2 (le_t (by omega) (by omega))), Nat.gcd_zero_right]
  | succ t ih =>
    intro i f a b hb ha hb2 hi hf
    obtain ⟨f, rfl⟩ : ∃ g, f = g + 1 := ⟨f - 1, by omega⟩
    by_cases e : b = 0
    · subst e
      rw [f_X0_commonDivisor_L7_s, zl_0, if_neg (fun z => z.2 (le_t (by omega) (by omega))), Nat.gcd_zero_right]
    · have l1 := Nat.mod_lt a (show 0 < b by omega)
      rw [f_X0_commonDivisor_L7_s, zl_0, zl_64, if_pos ⟨le_f (by omega) (by omega), le_f (by omega) (by omega)⟩, md_n (by omega) (by omega) (by omega), ob_s, nI_1]
      obtain ⟨f, rfl⟩ : ∃ g, f = g + 1 := ⟨f - 1, by omega⟩
      have eg : Nat.gcd a b = Nat.gcd b (a % b) := by rw [Nat.gcd_comm a b, Nat.gcd_rec b a, Nat.gcd_comm]
      rw [eg]
      by_cases e2 : a % b = 0
      · rw [e2, f_X0_commonDivisor_L7_s, zl_0, if_neg (fun z => z.2 (le_t (by omega) (by omega))), Nat.gcd_zero_right]
      · have l2 := Nat.mod_lt b (show 0 < a % b by omega)
        rw [f_X0_commonDivisor_L7_s, zl_0, zl_64, if_pos ⟨le_f (by omega) (by omega), le_f (by omega) (by omega)⟩, md_n (by omega) (by omega) (by omega), ob_s, nI_1]
        have eg2 : Nat.gcd b (a % b) = Nat.gcd (a % b) (b % (a % b)) := by rw [Nat.gcd_comm b (a % b), Nat.gcd_rec (a % b) b, Nat.gcd_comm]
        rw [eg2]
        have hh := gc_h (l := b) (x := a % b) (by omega) (by omega)
        have hp : 2 ^ (t + 1) = 2 ^ t * 2 := Nat.pow_succ 2 t
        have hp2 : 0 < 2 ^ t := Nat.two_pow_pos t
        exact ih (i + 1 + 1) f (a % b) (b % (a % b)) (by omega) (by omega) (by omega) (by omega) (by omega)
theorem gc_7 : ∀ (t f a b : Nat), b < 2 ^ t → a < 2 ^ 30 → b < 2 ^ 30 → 2 * t < f → f_X7_common f (nI a) (nI b) = some (nI (Nat.gcd a b)) := by
  intro t
  induction t with
  | zero =>
    intro f a b hb ha hb2 hf
    obtain ⟨f, rfl⟩ : ∃ g, f = g + 1 := ⟨f - 1, by omega⟩
    have e : b = 0 := by omega
    subst e
    show (if nI 0 = 0 then some (nI a) else _) = _
    rw [zl_0, if_pos rfl, Nat.gcd_zero_right]
  | succ t ih =>
    intro f a b hb ha hb2 hf
    obtain ⟨f, rfl⟩ : ∃ g, f = g + 1 := ⟨f - 1, by omega⟩
    show (if nI b = 0 then some (nI a) else Option.bind (md_ (nI a) (nI b)) (fun d => Option.bind (f_X7_common f (nI b) d) (fun u => some u))) = _
    by_cases e : b = 0
    · subst e
      rw [zl_0, if_pos rfl, Nat.gcd_zero_right]
    · have l1 := Nat.mod_lt a (show 0 < b by omega)
      rw [zl_0, if_neg (eq_f e (by omega) (by omega)), md_n (by omega) (by omega) (by omega), ob_s]
      obtain ⟨f, rfl⟩ : ∃ g, f = g + 1 := ⟨f - 1, by omega⟩
      have eg : Nat.gcd a b = Nat.gcd b (a % b) := by rw [Nat.gcd_comm a b, Nat.gcd_rec b a, Nat.gcd_comm]
      rw [eg]
      show Option.bind (if nI (a % b) = 0 then some (nI b) else Option.bind (md_ (nI b) (nI (a % b))) (fun d => Option.bind (f_X7_common f (nI (a % b)) d) (fun u => some u))) (fun u => some u) = _
      by_cases e2 : a % b = 0
      · rw [e2, zl_0, if_pos rfl, Nat.gcd_zero_right, ob_s]
      · have l2 := Nat.mod_lt b (show 0 < a % b by omega)
        have eg2 : Nat.gcd b (a % b) = Nat.gcd (a % b) (b % (a % b)) := by rw [Nat.gcd_comm b (a % b), Nat.gcd_rec (a % b) b, Nat.gcd_comm]
        have hh := gc_h (l := b) (x := a % b) (by omega) (by omega)
        have hp : 2 ^ (t + 1) = 2 ^ t * 2 := Nat.pow_succ 2 t
        have hp2 : 0 < 2 ^ t := Nat.two_pow_pos t
        rw [zl_0, if_neg (eq_f e2 (by omega) (by omega)), md_n (by omega) (by omega) (by omega), ob_s, ih f (a % b) (b % (a % b)) (by omega) (by omega) (by omega) (by omega), ob_s, ob_s, eg2]
/-- a fraction in lowest terms -/
def FR (n d : Nat) (p : Int32) : Int32 := nI ((if p = 0 then n else d) / Nat.gcd n d)
theorem gp_ {n d : Nat} (hd : 1 ≤ d) : 0 < Nat.gcd n d := Nat.gcd_pos_of_pos_right n hd
theorem if_nI {p : Prop} {i : Decidable p} {a b : Nat} : (if ¬ p then nI a else nI b) = nI (if p then b else a) := by
  by_cases h : p
  · rw [if_pos h, if_neg (fun z => z h)]
  · rw [if_neg h, if_pos h]
theorem pf_6 {n d : Nat} (hn : n < 2 ^ 20) (hd1 : 1 ≤ d) (hd : d ≤ 128) (p : Int32) : f_X6_partOfFraction (nI n) (nI d) p = some (FR n d p) := by
  unfold f_X6_partOfFraction f_X0_commonDivisor FR
  have g1 := gp_ (n := n) hd1
  have g2 : Nat.gcd n d ≤ d := Nat.gcd_le_right n hd1
  rw [zl_0, gc_6 8 0 5000 n d (by omega) (by omega) (by omega) (by omega) (by omega), ob_s, if_neg (le_f g1 (by omega)), if_nI, dv_n (by split <;> omega) g1 (by omega), ob_s]
theorem fr_7 {n d : Nat} (hn : n < 2 ^ 20) (hd1 : 1 ≤ d) (hd : d ≤ 128) (p : Int32) : f_X7_fraction (nI n) (nI d) p = some (Int32.toInt64 (FR n d p)) := by
  unfold f_X7_fraction FR
  have g1 := gp_ (n := n) hd1
  have g2 : Nat.gcd n d ≤ d := Nat.gcd_le_right n hd1
  rw [gc_7 20 200 d n (by omega) (by omega) (by omega) (by omega), ob_s, Nat.gcd_comm d n, zl_0, if_nI, dv_n (by split <;> omega) g1 (by omega), ob_s]
