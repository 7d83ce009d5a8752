/-! p40: numbers out of bits, the script's cells, texts of numbers and clauses -/
theorem an_3 (x : Int32) : ∃ j, j < 4 ∧ x &&& 3 = nI j := pk_andE x 2 (by decide)
theorem an_15 (x : Int32) : ∃ j, j < 16 ∧ x &&& 15 = nI j := pk_andE x 4 (by decide)
theorem an_31 (x : Int32) : ∃ j, j < 32 ∧ x &&& 31 = nI j := pk_andE x 5 (by decide)
theorem an_63 (x : Int32) : ∃ j, j < 64 ∧ x &&& 63 = nI j := pk_andE x 6 (by decide)
theorem an_127 (x : Int32) : ∃ j, j < 128 ∧ x &&& 127 = nI j := pk_andE x 7 (by decide)
theorem an_255 (x : Int32) : ∃ j, j < 256 ∧ x &&& 255 = nI j := pk_andE x 8 (by decide)
theorem un_1 (x : Int32) : ∃ j, j < 2 ^ 31 ∧ (Int32.toUInt32 x >>> (Int32.toUInt32 (1 : Int32) &&& Int32.toUInt32 31)).toInt32 = nI j := by
  have hb := x.toBitVec.isLt
  refine ⟨x.toBitVec.toNat / 2 ^ 1, by omega, ?_⟩
  apply Int32.toBitVec_inj.mp
  apply BitVec.eq_of_toNat_eq
  rw [pk_ushr x 1 1 (by decide), pk_tn (n := x.toBitVec.toNat / 2 ^ 1) (by omega)]
theorem ce_ (xs : Nat → Int32) {L : Nat} (hL : L ≤ 260) {j : Nat} (hj : j < 2 ^ 30) : ∃ v, f_L_cell (nI j) L xs = some v := by
  unfold f_L_cell
  rw [zo_]
  by_cases q : nI L ≤ nI j
  · rw [if_pos q]
    exact ⟨_, rfl⟩
  · rw [if_neg q]
    have hlt : j < L := by
      rcases Nat.lt_or_ge j L with a | a
      · exact a
      · exact absurd (le_t a (by omega)) q
    rw [rd_n hlt (by omega), ob_s]
    exact ⟨_, rfl⟩
theorem qu_L {v b b' z n f : Nat} {u : Nat → Int32} {k : Int32 → (Nat → Int32) → Option (Int32 × (Nat → Int32))} (h0 : 0 < b) (hb : b ≤ 100) (hv : v ≤ 999) (hz : z < n) (hn : n ≤ 1000) (e : b / 10 = b') : f_L_puts_L27 k (nI v) n (f + 1) (nI z) (nI b) u = f_L_puts_L27 k (nI v) n f (nI (z + 1)) (nI b') (upd u z (nI (48 + v / b % 10))) := by
  subst e
  have l1 := Nat.div_le_self v b
  rw [f_L_puts_L27_s]
  simp only [zl_0, zl_1, zl_10, zl_48]
  rw [if_neg (le_f (by omega) (by omega)), dv_n (by omega) h0 (by omega), ob_s, md_n (by omega) (by omega) (by omega), ob_s, nI_add, wr_n hz (by omega), ob_s, dv_n (by omega) (by omega) (by omega), ob_s, nI_add]
theorem qu_z {v z n f : Nat} {u : Nat → Int32} {k : Int32 → (Nat → Int32) → Option (Int32 × (Nat → Int32))} : f_L_puts_L27 k (nI v) n (f + 1) (nI z) (nI 0) u = k (nI z) u := by
  rw [f_L_puts_L27_s, zl_0, if_pos (le_t (by omega) (by omega))]
theorem qu_1 {v z : Nat} {u : Nat → Int32} (hv : v ≤ 9) (hz : z < 120) : f_L_puts (nI z) (nI v) 120 u = some (nI (z + 1), upd u z (nI (48 + v))) := by
  unfold f_L_puts
  have e : (if nI v ≤ (99 : Int32) then (if nI v ≤ (9 : Int32) then (1 : Int32) else (10 : Int32)) else (100 : Int32)) = nI 1 := by
    rw [zl_99, zl_9, if_pos (le_t (by omega) (by omega)), if_pos (le_t (by omega) (by omega))]
    rfl
  rw [e, qn_s, show (5000 : Nat) = 4998 + 1 + 1 from rfl, qu_L (b' := 0) (by omega) (by omega) (by omega) hz (by omega) (by omega), qu_z, Nat.div_one, Nat.mod_eq_of_lt (by omega)]
def NUM (tx : Nat → Int32) (y y' v : Nat) : Prop := (y' = y + 1 ∧ v ≤ 9 ∧ tx y = nI (48 + v)) ∨ (y' = y + 2 ∧ ∃ d e, d ≤ 9 ∧ e ≤ 9 ∧ v = 10 * d + e ∧ tx y = nI (48 + d) ∧ tx (y + 1) = nI (48 + e)) ∨ (y' = y + 3 ∧ ∃ c d e, c ≤ 9 ∧ d ≤ 9 ∧ e ≤ 9 ∧ v = 10 * (10 * c + d) + e ∧ tx y = nI (48 + c) ∧ tx (y + 1) = nI (48 + d) ∧ tx (y + 2) = nI (48 + e))
theorem NUM.l {tx : Nat → Int32} {y y' v : Nat} (h : NUM tx y y' v) : y < y' ∧ y' ≤ y + 3 ∧ v ≤ 999 := by
  rcases h with ⟨a, b, _⟩ | ⟨a, d, e, b⟩ | ⟨a, c, d, e, b⟩ <;> omega
theorem NUM.c {tx tx2 : Nat → Int32} {y y' v : Nat} (h : NUM tx y y' v) (q : ∀ j, y ≤ j → j < y' → tx2 j = tx j) : NUM tx2 y y' v := by
  rcases h with ⟨a, b, c⟩ | ⟨a, d, e, b1, b2, b3, b4, b5⟩ | ⟨a, c, d, e, b1, b2, b3, b4, b5, b6, b7⟩
  · exact Or.inl ⟨a, b, by rw [q y (by omega) (by omega)]; exact c⟩
  · exact Or.inr (Or.inl ⟨a, d, e, b1, b2, b3, by rw [q y (by omega) (by omega)]; exact b4, by rw [q (y + 1) (by omega) (by omega)]; exact b5⟩)
  · exact Or.inr (Or.inr ⟨a, c, d, e, b1, b2, b3, b4, by rw [q y (by omega) (by omega)]; exact b5, by rw [q (y + 1) (by omega) (by omega)]; exact b6, by rw [q (y + 2) (by omega) (by omega)]; exact b7⟩)
/-- bytes of a text -/
def BYT (tx : Nat → Int32) (n : Nat) : Prop := ∀ j, j < n → ∃ s, s ≤ 127 ∧ tx j = nI s
theorem BYT.u {tx : Nat → Int32} {n s : Nat} (h : BYT tx n) (hs : s ≤ 127) : BYT (upd tx n (nI s)) (n + 1) := fun j hj => by
  by_cases e : j = n
  · subst e
    exact ⟨s, hs, pk_us⟩
  · rw [pk_un e]
    exact h j (by omega)
theorem qu_ {v z : Nat} {u : Nat → Int32} (hv : v ≤ 999) (hz : z + 3 ≤ 120) (hb : BYT u z) : ∃ z' u', f_L_puts (nI z) (nI v) 120 u = some (nI z', u') ∧ NUM u' z z' v ∧ (∀ j, j < z → u' j = u j) ∧ BYT u' z' := by
  by_cases c1 : v ≤ 9
  · exact ⟨_, _, qu_1 c1 (by omega), Or.inl ⟨rfl, c1, pk_us⟩, fun j hj => pk_un (by omega), hb.u (by omega)⟩
  · by_cases c2 : v ≤ 99
    · have e : (if nI v ≤ (99 : Int32) then (if nI v ≤ (9 : Int32) then (1 : Int32) else (10 : Int32)) else (100 : Int32)) = nI 10 := by
        rw [zl_99, zl_9, if_pos (le_t (by omega) (by omega)), if_neg (le_f (by omega) (by omega))]
        rfl
      refine ⟨z + 1 + 1, upd (upd u z (nI (48 + v / 10 % 10))) (z + 1) (nI (48 + v / 1 % 10)), ?_, Or.inr (Or.inl ⟨rfl, v / 10 % 10, v / 1 % 10, by omega, by omega, by omega, ?_, pk_us⟩), fun j hj => ?_, (hb.u (by omega)).u (by omega)⟩
      · unfold f_L_puts
        rw [e, qn_s, show (5000 : Nat) = 4997 + 1 + 1 + 1 from rfl, qu_L (b' := 1) (by omega) (by omega) (by omega) (by omega) (by omega) (by omega), qu_L (b' := 0) (by omega) (by omega) (by omega) (by omega) (by omega) (by omega), qu_z]
      · rw [pk_un (by omega), pk_us]
      · rw [pk_un (by omega), pk_un (by omega)]
    · have e : (if nI v ≤ (99 : Int32) then (if nI v ≤ (9 : Int32) then (1 : Int32) else (10 : Int32)) else (100 : Int32)) = nI 100 := by
        rw [zl_99, zl_9, if_neg (le_f (by omega) (by omega))]
        rfl
      refine ⟨z + 1 + 1 + 1, upd (upd (upd u z (nI (48 + v / 100 % 10))) (z + 1) (nI (48 + v / 10 % 10))) (z + 1 + 1) (nI (48 + v / 1 % 10)), ?_, Or.inr (Or.inr ⟨rfl, v / 100 % 10, v / 10 % 10, v / 1 % 10, by omega, by omega, by omega, by omega, ?_, ?_, pk_us⟩), fun j hj => ?_, ((hb.u (by omega)).u (by omega)).u (by omega)⟩
      · unfold f_L_puts
        rw [e, qn_s, show (5000 : Nat) = 4996 + 1 + 1 + 1 + 1 from rfl, qu_L (b' := 10) (by omega) (by omega) (by omega) (by omega) (by omega) (by omega), qu_L (b' := 1) (by omega) (by omega) (by omega) (by omega) (by omega) (by omega), qu_L (b' := 0) (by omega) (by omega) (by omega) (by omega) (by omega) (by omega), qu_z]
      · rw [pk_un (by omega), pk_un (by omega), pk_us]
      · rw [pk_un (by omega), pk_us]
      · rw [pk_un (by omega), pk_un (by omega), pk_un (by omega)]
/-- the bytes from x on, ahead of x', are the clause of letter l with numbers a, b -/
def CLZ (tx : Nat → Int32) (x x' : Nat) (l a b : Int32) : Prop :=
  ((l = 112 ∨ l = 101) ∧ tx x = l ∧ b = 0 ∧ x' = x + 2 ∧ ∃ d, d ≤ 9 ∧ a = nI d ∧ tx (x + 1) = nI (48 + d)) ∨
  (l = 120 ∧ tx x = l ∧ a = 0 ∧ b = 0 ∧ x' = x + 1) ∨
  (l = 109 ∧ tx x = l ∧ ∃ d v, d ≤ 9 ∧ a = nI d ∧ tx (x + 1) = nI (48 + d) ∧ b = nI v ∧ NUM tx (x + 2) x' v) ∨
  (l = 119 ∧ tx x = l ∧ ∃ y v v', a = nI v ∧ b = nI v' ∧ NUM tx (x + 1) y v ∧ tx y = 44 ∧ NUM tx (y + 1) x' v')
theorem CLZ.l {tx : Nat → Int32} {x x' : Nat} {l a b : Int32} (h : CLZ tx x x' l a b) : x < x' ∧ x' ≤ x + 8 := by
  rcases h with ⟨_, _, _, e, _⟩ | ⟨_, _, _, _, e⟩ | ⟨_, _, d, v, _, _, _, _, n⟩ | ⟨_, _, y, v, v', _, _, n, _, n'⟩
  · omega
  · omega
  · have := n.l
    omega
  · have := n.l
    have := n'.l
    omega
theorem CLZ.c {tx tx2 : Nat → Int32} {x x' : Nat} {l a b : Int32} (h : CLZ tx x x' l a b) (q : ∀ j, x ≤ j → j < x' → tx2 j = tx j) : CLZ tx2 x x' l a b := by
  have hl := h.l
  rcases h with ⟨e0, e1, e2, e3, d, e4, e5, e6⟩ | ⟨e0, e1, e2, e3, e4⟩ | ⟨e0, e1, d, v, e2, e3, e4, e5, n⟩ | ⟨e0, e1, y, v, v', e2, e3, n, e4, n'⟩
  · exact Or.inl ⟨e0, by rw [q x (by omega) (by omega)]; exact e1, e2, e3, d, e4, e5, by rw [q (x + 1) (by omega) (by omega)]; exact e6⟩
  · exact Or.inr (Or.inl ⟨e0, by rw [q x (by omega) (by omega)]; exact e1, e2, e3, e4⟩)
  · have := n.l
    exact Or.inr (Or.inr (Or.inl ⟨e0, by rw [q x (by omega) (by omega)]; exact e1, d, v, e2, e3, by rw [q (x + 1) (by omega) (by omega)]; exact e4, e5, n.c (fun j h1 h2 => q j (by omega) h2)⟩))
  · have := n.l
    have := n'.l
    exact Or.inr (Or.inr (Or.inr ⟨e0, by rw [q x (by omega) (by omega)]; exact e1, y, v, v', e2, e3, n.c (fun j h1 h2 => q j (by omega) (by omega)), by rw [q y (by omega) (by omega)]; exact e4, n'.c (fun j h1 h2 => q j (by omega) h2)⟩))
