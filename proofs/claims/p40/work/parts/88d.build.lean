/-! p40: set-ups that hold, their calls; the text is built, clause by clause -/
theorem pb_i {α : Type} {o : Option α} {k : α → Prop} {u : α} (h : o = some u) (hk : k u) : pb_ o k := ⟨u, h, hk⟩
def MKS (mn : Nat → Int32) (a : Nat) : Prop := a ≤ 6 ∧ ∀ i, i < a → ∃ k v, k ≤ 4 ∧ v ≤ 2400 ∧ mn (3 * i) = nI k ∧ mn (3 * i + 1) = nI v
def VAL (σ : SG) : Prop := ∃ P E a W0 W1 : Nat, PE P E ∧ MKS σ.1 a ∧ W0 ≤ 127 ∧ W1 ≤ 127 ∧ σ.2 = (nI a, nI P, nI E, nI (P ^ E), nI W0, nI W1)
theorem val_0 : VAL S0 := ⟨2, 1, 0, 0, 0, ⟨Or.inl rfl, by omega, by omega⟩, ⟨by omega, fun i hi => by omega⟩, by omega, by omega, rfl⟩
theorem pr_v {P E : Nat} (h : PE P E) (x : Int32) : ∃ r P', PE P' E ∧ f_X6_prime x (nI P) (nI E) (nI (P ^ E)) = some (r, nI P', nI E, nI (P' ^ E)) := by
  unfold f_X6_prime
  by_cases q : x = 2 ∨ x = 3 ∨ x = 5 ∨ x = 7
  · have hP : ∃ P', (P' = 2 ∨ P' = 3 ∨ P' = 5 ∨ P' = 7) ∧ x = nI P' := by
      rcases q with rfl | rfl | rfl | rfl
      · exact ⟨2, by omega, rfl⟩
      · exact ⟨3, by omega, rfl⟩
      · exact ⟨5, by omega, rfl⟩
      · exact ⟨7, by omega, rfl⟩
    obtain ⟨P', hP', rfl⟩ := hP
    have pe : PE P' E := ⟨hP', h.2⟩
    rw [if_neg (fun z => q.elim z.1 (fun q => q.elim z.2.1 (fun q => q.elim z.2.2.1 z.2.2.2)))]
    unfold f_X3_become
    rw [pw_0 pe]
    exact ⟨_, P', pe, rfl⟩
  · rw [if_pos ⟨fun z => q (Or.inl z), fun z => q (Or.inr (Or.inl z)), fun z => q (Or.inr (Or.inr (Or.inl z))), fun z => q (Or.inr (Or.inr (Or.inr z)))⟩]
    exact ⟨_, P, h, rfl⟩
theorem po_v {P E : Nat} (h : PE P E) (x : Int32) : ∃ r E', PE P E' ∧ f_X6_power x (nI P) (nI E) (nI (P ^ E)) = some (r, nI P, nI E', nI (P ^ E')) := by
  unfold f_X6_power
  by_cases q : f_X6_isWithin x 1 4 = 0
  · rw [if_pos q]
    exact ⟨_, E, h, rfl⟩
  · obtain ⟨E', rfl, l1, l2⟩ := iw_n (a := 1) (b := 4) q (by omega) (by omega)
    have pe : PE P E' := ⟨h.1, l1, l2⟩
    rw [if_neg q]
    unfold f_X3_become
    rw [pw_0 pe]
    exact ⟨_, E', pe, rfl⟩
theorem wi_v {W0 W1 : Nat} (h0 : W0 ≤ 127) (h1 : W1 ≤ 127) (x y : Int32) : ∃ r W0' W1', W0' ≤ 127 ∧ W1' ≤ 127 ∧ f_X6_window x y (nI W0) (nI W1) = some (r, nI W0', nI W1') := by
  unfold f_X6_window
  by_cases q : f_X6_isWithin x 0 127 = 0 ∨ f_X6_isWithin y 0 127 = 0
  · rw [if_pos q]
    exact ⟨_, W0, W1, h0, h1, rfl⟩
  · rw [if_neg q]
    obtain ⟨a, rfl, _, la⟩ := iw_n (a := 0) (b := 127) (fun z => q (Or.inl z)) (by omega) (by omega)
    obtain ⟨b, rfl, _, lb⟩ := iw_n (a := 0) (b := 127) (fun z => q (Or.inr z)) (by omega) (by omega)
    exact ⟨_, a, b, la, lb, rfl⟩
theorem ma_6 {mn : Nat → Int32} {a : Nat} (h : MKS mn a) {k v : Nat} (hk : k ≤ 4) (hv : v ≤ 2400) (ha : a < 6) : f_X6_mark (nI k) (nI v) mn (nI a) = some (nI (a + 1), up3 mn a (nI k) (nI v) 0, nI (a + 1)) := by
  unfold f_X6_mark
  rw [if_neg (show ¬ f_X6_isWithin (nI k) 0 4 = 0 from iw_y (a := 0) (b := 4) (by omega) hk (by omega)), if_neg (show ¬ f_X6_isWithin (nI v) 0 2400 = 0 from iw_y (a := 0) (b := 2400) (by omega) hv (by omega)), la_a (by omega) (by omega)]
  rfl
theorem MKS.u {mn : Nat → Int32} {a : Nat} (h : MKS mn a) {k v : Nat} (hk : k ≤ 4) (hv : v ≤ 2400) (ha : a < 6) : MKS (up3 mn a (nI k) (nI v) 0) (a + 1) := ⟨by omega, fun i hi => by
  by_cases e : i = a
  · subst e
    exact ⟨k, v, hk, hv, u3_0, u3_1⟩
  · rw [u3_n (by omega), u3_n (by omega)]
    exact h.2 i (by omega)⟩
theorem ma_v {mn : Nat → Int32} {a : Nat} (h : MKS mn a) (x y : Int32) : ∃ r mn' a', MKS mn' a' ∧ f_X6_mark x y mn (nI a) = some (r, mn', nI a') := by
  by_cases q : f_X6_isWithin x 0 4 = 0
  · refine ⟨-1, mn, a, h, ?_⟩
    unfold f_X6_mark
    rw [if_pos q]
  · by_cases q2 : f_X6_isWithin y 0 2400 = 0
    · refine ⟨-2, mn, a, h, ?_⟩
      unfold f_X6_mark
      rw [if_neg q, if_pos q2]
    · obtain ⟨k, rfl, _, hk⟩ := iw_n (a := 0) (b := 4) q (by omega) (by omega)
      obtain ⟨v, rfl, _, hv⟩ := iw_n (a := 0) (b := 2400) q2 (by omega) (by omega)
      have la := h.1
      by_cases q3 : a = 6
      · subst q3
        refine ⟨-4, mn, 6, h, ?_⟩
        unfold f_X6_mark
        rw [if_neg q, if_neg q2, la_f (a := 6) (n := 18) rfl (by omega) (by omega)]
        rfl
      · exact ⟨_, _, a + 1, h.u hk hv (by omega), ma_6 h hk hv (by omega)⟩
theorem cl_v {x : Int32} : f_X6_clear x = some (x, 0) := rfl
theorem dc_p {σ : SG} {x y r p e M : Int32} (h : f_X6_prime x σ.2.2.1 σ.2.2.2.1 σ.2.2.2.2.1 = some (r, p, e, M)) : dC 112 x y σ = some (r, σ.1, σ.2.1, p, e, M, σ.2.2.2.2.2.1, σ.2.2.2.2.2.2) := by
  unfold dC f_X6_doClause
  rw [if_neg (by decide), if_neg (by decide), if_pos rfl, h, ob_s]
theorem dc_e {σ : SG} {x y r p e M : Int32} (h : f_X6_power x σ.2.2.1 σ.2.2.2.1 σ.2.2.2.2.1 = some (r, p, e, M)) : dC 101 x y σ = some (r, σ.1, σ.2.1, p, e, M, σ.2.2.2.2.2.1, σ.2.2.2.2.2.2) := by
  unfold dC f_X6_doClause
  rw [if_pos rfl, h, ob_s]
theorem dc_m {σ : SG} {x y r ms : Int32} {mn : Nat → Int32} (h : f_X6_mark x y σ.1 σ.2.1 = some (r, mn, ms)) : dC 109 x y σ = some (r, mn, ms, σ.2.2.1, σ.2.2.2.1, σ.2.2.2.2.1, σ.2.2.2.2.2.1, σ.2.2.2.2.2.2) := by
  unfold dC f_X6_doClause
  rw [if_neg (by decide), if_pos rfl, h, ob_s]
theorem dc_w {σ : SG} {x y r w0 w1 : Int32} (h : f_X6_window x y σ.2.2.2.2.2.1 σ.2.2.2.2.2.2 = some (r, w0, w1)) : dC 119 x y σ = some (r, σ.1, σ.2.1, σ.2.2.1, σ.2.2.2.1, σ.2.2.2.2.1, w0, w1) := by
  unfold dC f_X6_doClause
  rw [if_neg (by decide), if_neg (by decide), if_neg (by decide), if_pos rfl, h, ob_s]
theorem dc_x {σ : SG} {x y : Int32} : dC 120 x y σ = some (σ.2.1, σ.1, 0, σ.2.2.1, σ.2.2.2.1, σ.2.2.2.2.1, σ.2.2.2.2.2.1, σ.2.2.2.2.2.2) := by
  unfold dC f_X6_doClause
  rw [if_neg (by decide), if_neg (by decide), if_neg (by decide), if_neg (by decide), cl_v, ob_s]
theorem tt_ {t : Nat} {r : Int32} : nI t + (if ¬ r < 0 then (1 : Int32) else 0) = nI (if r < 0 then t else t + 1) := by
  by_cases c : r < 0
  · rw [if_neg (fun z => z c), if_pos c, zl_0, nI_add]
    rfl
  · rw [if_pos c, if_neg c, nI_1]
theorem TX.s {tx tx2 cn : Nat → Int32} {k z z' t : Nat} {σ σ' : SG} {l a b r : Int32} (h : TX tx cn k z σ t) (q : ∀ j, j < z → tx2 j = tx j) (h59 : k = 0 ∨ tx2 z = 59) (hc : CLZ tx2 (if k = 0 then 0 else z + 1) z' l a b) (hd : dC l a b σ = some (r, σ')) : TX tx2 (up3 cn k l a b) (k + 1) z' σ' (if r < 0 then t else t + 1) := by
  refine ⟨z, σ, t, r, h.c k z σ t q (fun j hj => u3_n hj), h59, ?_, ?_, rfl⟩
  · rw [u3_0, u3_1, u3_2]
    exact hc
  · rw [u3_0, u3_1, u3_2]
    exact hd
section BUILD
variable {K46 : KT_46} {K98 : KT_98} {K435 : KT_435} {L : Nat} {xs : Nat → Int32}
theorem lp_98 (b98 : BL_98 K46 K98 L xs) {tx cn : Nat → Int32} {k z t n x0 a b : Nat} {σ : SG} {v : Int32} (h : TX tx cn k z σ t) (h59 : k = 0 ∨ tx z = 59) (hx0 : x0 = if k = 0 then 0 else z + 1) (hB : BYT tx x0) (hV : VAL σ) (hk : k < n) (hn : n ≤ 11) (ha : a < 16) (hb : b < 256)
    (ih : ∀ tx' cn' z' σ' t', TX tx' cn' (k + 1) z' σ' t' → VAL σ' → BYT tx' z' → K46 σ'.1 σ'.2.1 σ'.2.2.1 σ'.2.2.2.1 σ'.2.2.2.2.1 σ'.2.2.2.2.2.1 σ'.2.2.2.2.2.2 tx' (nI z') (nI t') (nI n) (nI (k + 1))) :
    K98 σ.1 σ.2.1 σ.2.2.1 σ.2.2.2.1 σ.2.2.2.2.1 σ.2.2.2.2.2.1 σ.2.2.2.2.2.2 tx (nI x0) (nI t) (nI n) (nI k) v (nI a) (nI b) := by
  have hbd := TX.b k z σ t h
  have hzx : z ≤ x0 ∧ x0 ≤ z + 1 := by
    have := hbd.2.2.2
    rw [hx0]
    split <;> omega
  have q0 : ∀ {tx' : Nat → Int32}, (∀ j, j < x0 → tx' j = tx j) → (∀ j, j < z → tx' j = tx j) ∧ (k = 0 ∨ tx' z = 59) := by
    intro tx' q
    refine ⟨fun j hj => q j (by omega), ?_⟩
    rcases h59 with e | e
    · exact Or.inl e
    · by_cases e0 : k = 0
      · exact Or.inl e0
      · rw [if_neg e0] at hx0
        exact Or.inr ((q z (by omega)).trans e)
  obtain ⟨σ1, p2⟩ := σ
  obtain ⟨P, E, c, W0, W1, pe, mk, w0, w1, e2⟩ := hV
  have e2 : p2 = (nI c, nI P, nI E, nI (P ^ E), nI W0, nI W1) := e2
  subst e2
  have mk : MKS σ1 c := mk
  refine b98 _ _ _ _ _ _ _ _ _ _ _ _ _ _ _ ?_
  unfold wp_98
  obtain ⟨u, hu, eu⟩ := an_15 v
  refine pb_i (u := nI (u % 6)) (by rw [eu, zl_6, md_n (by omega) (by omega) (by omega)]) ?_
  have hm := Nat.mod_lt u (show 0 < 6 by omega)
  by_cases c0 : u % 6 = 0
  · rw [c0, if_pos (show nI 0 = (0 : Int32) from rfl)]
    refine pb_i (u := upd tx x0 112) (wr_n (by omega) (by omega)) ?_
    refine pb_i (u := nI (a % 10)) (by rw [zl_10, md_n (by omega) (by omega) (by omega)]) ?_
    refine pb_i (u := (nI (x0 + 1 + 1), upd (upd tx x0 112) (x0 + 1) (nI (48 + a % 10)))) (by rw [nI_1]; exact qu_1 (by omega) (by omega)) ?_
    refine pb_i (u := nI (a % 10)) (by rw [zl_10, md_n (by omega) (by omega) (by omega)]) ?_
    obtain ⟨r, P', pe', hr⟩ := pr_v pe (nI (a % 10))
    refine pb_i hr ?_
    dsimp only
    rw [tt_, nI_1]
    have q := q0 (tx' := upd (upd tx x0 112) (x0 + 1) (nI (48 + a % 10))) (fun j hj => by rw [pk_un (by omega), pk_un (by omega)])
    exact ih _ _ _ _ _ (h.s q.1 q.2 (by rw [← hx0]; exact Or.inl ⟨Or.inl rfl, by rw [pk_un (by omega), pk_us], rfl, rfl, a % 10, by omega, rfl, pk_us⟩) (dc_p hr)) ⟨P', E, c, W0, W1, pe', mk, w0, w1, rfl⟩ ((hB.u (s := 112) (by omega)).u (by omega))
  · rw [if_neg (show ¬ nI (u % 6) = (0 : Int32) from eq_f (b := 0) c0 (by omega) (by omega))]
    by_cases c1 : u % 6 = 1
    · rw [c1, if_pos (show nI 1 = (1 : Int32) from rfl)]
      refine pb_i (u := upd tx x0 101) (wr_n (by omega) (by omega)) ?_
      refine pb_i (u := nI (a % 7)) (by rw [zl_7, md_n (by omega) (by omega) (by omega)]) ?_
      refine pb_i (u := (nI (x0 + 1 + 1), upd (upd tx x0 101) (x0 + 1) (nI (48 + a % 7)))) (by rw [nI_1]; exact qu_1 (by omega) (by omega)) ?_
      refine pb_i (u := nI (a % 7)) (by rw [zl_7, md_n (by omega) (by omega) (by omega)]) ?_
      obtain ⟨r, E', pe', hr⟩ := po_v pe (nI (a % 7))
      refine pb_i hr ?_
      dsimp only
      rw [tt_, nI_1]
      have q := q0 (tx' := upd (upd tx x0 101) (x0 + 1) (nI (48 + a % 7))) (fun j hj => by rw [pk_un (by omega), pk_un (by omega)])
      exact ih _ _ _ _ _ (h.s q.1 q.2 (by rw [← hx0]; exact Or.inl ⟨Or.inr rfl, by rw [pk_un (by omega), pk_us], rfl, rfl, a % 7, by omega, rfl, pk_us⟩) (dc_e hr)) ⟨P, E', c, W0, W1, pe', mk, w0, w1, rfl⟩ ((hB.u (s := 101) (by omega)).u (by omega))
    · rw [if_neg (show ¬ nI (u % 6) = (1 : Int32) from eq_f (b := 1) c1 (by omega) (by omega))]
      by_cases c2 : u % 6 = 2
      · rw [c2, if_pos (show nI 2 = (2 : Int32) from rfl)]
        refine pb_i (u := upd tx x0 119) (wr_n (by omega) (by omega)) ?_
        refine pb_i (u := nI (b % 140)) (by rw [show (140 : Int32) = nI 140 from rfl, md_n (by omega) (by omega) (by omega)]) ?_
        obtain ⟨z1, t1, g1, g2, g3, g4⟩ := qu_ (v := b % 140) (z := x0 + 1) (u := upd tx x0 119) (by omega) (by omega) (hB.u (s := 119) (by omega))
        have l1 := g2.l
        refine pb_i (u := (nI z1, t1)) (by rw [nI_1]; exact g1) ?_
        refine pb_i (u := upd t1 z1 44) (wr_n (by omega) (by omega)) ?_
        obtain ⟨z2, t2, i1, i2, i3, i4⟩ := qu_ (v := a) (z := z1 + 1) (u := upd t1 z1 44) (by omega) (by omega) (g4.u (s := 44) (by omega))
        have l2 := i2.l
        refine pb_i (u := (nI z2, t2)) (by dsimp only; rw [nI_1]; exact i1) ?_
        refine pb_i (u := nI (b % 140)) (by rw [show (140 : Int32) = nI 140 from rfl, md_n (by omega) (by omega) (by omega)]) ?_
        obtain ⟨r, W0', W1', v0, v1, hr⟩ := wi_v w0 w1 (nI (b % 140)) (nI a)
        refine pb_i hr ?_
        dsimp only
        rw [tt_, nI_1]
        have q := q0 (tx' := t2) (fun j hj => by rw [i3 j (by omega), pk_un (by omega), g3 j (by omega), pk_un (by omega)])
        exact ih _ _ _ _ _ (h.s q.1 q.2 (by
          rw [← hx0]
          refine Or.inr (Or.inr (Or.inr ⟨rfl, ?_, z1, b % 140, a, rfl, rfl, ?_, ?_, i2⟩))
          · rw [i3 x0 (by omega), pk_un (by omega), g3 x0 (by omega), pk_us]
          · exact g2.c (fun j h1 h2 => by rw [i3 j (by omega), pk_un (by omega)])
          · rw [i3 z1 (by omega), pk_us]) (dc_w hr)) ⟨P, E, c, W0', W1', pe, mk, v0, v1, rfl⟩ i4
      · rw [if_neg (show ¬ nI (u % 6) = (2 : Int32) from eq_f (b := 2) c2 (by omega) (by omega))]
        by_cases c3 : u % 6 = 3
        · rw [c3, if_pos (show nI 3 = (3 : Int32) from rfl)]
          have hk3 := Nat.mod_lt k (show 0 < 3 by omega)
          refine pb_i (u := nI (k % 3)) (by rw [zl_3, md_n (by omega) (by omega) (by omega)]) ?_
          by_cases d0 : k % 3 = 0
          · rw [d0]
            refine pb_i (u := upd tx x0 120) (by rw [if_neg (show ¬ ¬ nI 0 = (0 : Int32) from fun z => z rfl)]; exact wr_n (by omega) (by omega)) ?_
            refine pb_i (u := nI 0) (by rw [zl_3, md_n (by omega) (by omega) (by omega), d0]) ?_
            rw [if_pos (show nI 0 = (0 : Int32) from rfl)]
            refine pb_i cl_v ?_
            dsimp only
            rw [tt_, nI_1, nI_1]
            have q := q0 (tx' := upd tx x0 120) (fun j hj => pk_un (by omega))
            exact ih _ _ _ _ _ (h.s q.1 q.2 (by rw [← hx0]; exact Or.inr (Or.inl ⟨rfl, pk_us, rfl, rfl, rfl⟩)) dc_x) ⟨P, E, 0, W0, W1, pe, ⟨by omega, fun i hi => by omega⟩, w0, w1, rfl⟩ (hB.u (s := 120) (by omega))
          · refine pb_i (u := upd tx x0 112) (by rw [if_pos (show ¬ nI (k % 3) = (0 : Int32) from eq_f (b := 0) d0 (by omega) (by omega))]; exact wr_n (by omega) (by omega)) ?_
            refine pb_i (u := nI (k % 3)) (by rw [zl_3, md_n (by omega) (by omega) (by omega)]) ?_
            rw [if_neg (show ¬ nI (k % 3) = (0 : Int32) from eq_f (b := 0) d0 (by omega) (by omega))]
            refine pb_i (u := (nI (x0 + 1 + 1), upd (upd tx x0 112) (x0 + 1) (nI (48 + 3)))) (by rw [nI_1, zl_3]; exact qu_1 (by omega) (by omega)) ?_
            obtain ⟨r, P', pe', hr⟩ := pr_v pe (nI 3)
            refine pb_i hr ?_
            dsimp only
            rw [tt_, nI_1]
            have q := q0 (tx' := upd (upd tx x0 112) (x0 + 1) (nI (48 + 3))) (fun j hj => by rw [pk_un (by omega), pk_un (by omega)])
            exact ih _ _ _ _ _ (h.s q.1 q.2 (by rw [← hx0]; exact Or.inl ⟨Or.inl rfl, by rw [pk_un (by omega), pk_us], rfl, rfl, 3, by omega, rfl, pk_us⟩) (dc_p hr)) ⟨P', E, c, W0, W1, pe', mk, w0, w1, rfl⟩ ((hB.u (s := 112) (by omega)).u (by omega))
        · rw [if_neg (show ¬ nI (u % 6) = (3 : Int32) from eq_f (b := 3) c3 (by omega) (by omega))]
          refine pb_i (u := upd tx x0 109) (wr_n (by omega) (by omega)) ?_
          refine pb_i (u := nI (a % 6)) (by rw [zl_6, md_n (by omega) (by omega) (by omega)]) ?_
          refine pb_i (u := (nI (x0 + 1 + 1), upd (upd tx x0 109) (x0 + 1) (nI (48 + a % 6)))) (by rw [nI_1]; exact qu_1 (by omega) (by omega)) ?_
          obtain ⟨z1, t1, g1, g2, g3, g4⟩ := qu_ (v := b) (z := x0 + 1 + 1) (u := upd (upd tx x0 109) (x0 + 1) (nI (48 + a % 6))) (by omega) (by omega) ((hB.u (s := 109) (by omega)).u (by omega))
          have l1 := g2.l
          refine pb_i g1 ?_
          refine pb_i (u := nI (a % 6)) (by rw [zl_6, md_n (by omega) (by omega) (by omega)]) ?_
          obtain ⟨r, mn', c', mk', hr⟩ := ma_v mk (nI (a % 6)) (nI b)
          refine pb_i hr ?_
          dsimp only
          rw [tt_, nI_1]
          have q := q0 (tx' := t1) (fun j hj => by rw [g3 j (by omega), pk_un (by omega), pk_un (by omega)])
          exact ih _ _ _ _ _ (h.s q.1 q.2 (by
            rw [← hx0]
            refine Or.inr (Or.inr (Or.inl ⟨rfl, ?_, a % 6, b, by omega, rfl, ?_, rfl, g2⟩))
            · rw [g3 x0 (by omega), pk_un (by omega), pk_us]
            · rw [g3 (x0 + 1) (by omega), pk_us]) (dc_m hr)) ⟨P, E, c', W0, W1, pe, mk', w0, w1, rfl⟩ g4
theorem lp_46 (hL : L ≤ 260) (b46 : BL_46 K46 K98 K435 L xs) (b98 : BL_98 K46 K98 L xs) {n : Nat} (h0 : 0 < n) (hn : n ≤ 11)
    (hk : ∀ tx cn z σ t, TX tx cn n z σ t → VAL σ → BYT tx z → K435 σ.1 σ.2.1 σ.2.2.1 σ.2.2.2.1 σ.2.2.2.2.1 σ.2.2.2.2.2.1 σ.2.2.2.2.2.2 tx (nI z) (nI t)) :
    ∀ (d k : Nat) (tx cn : Nat → Int32) (z t : Nat) (σ : SG), k + d = n → TX tx cn k z σ t → VAL σ → BYT tx z → K46 σ.1 σ.2.1 σ.2.2.1 σ.2.2.2.1 σ.2.2.2.2.1 σ.2.2.2.2.2.1 σ.2.2.2.2.2.2 tx (nI z) (nI t) (nI n) (nI k) := by
  intro d
  induction d with
  | zero =>
    intro k tx cn z t σ hd h hV hB
    have e : k = n := by omega
    subst e
    refine b46 _ _ _ _ _ _ _ _ _ _ _ _ ?_
    unfold wp_46
    rw [if_pos (le_t (Nat.le_refl _) (by omega))]
    exact hk tx cn z σ t h hV hB
  | succ d ih =>
    intro k tx cn z t σ hd h hV hB
    have hbd := TX.b k z σ t h
    refine b46 _ _ _ _ _ _ _ _ _ _ _ _ ?_
    unfold wp_46
    rw [if_neg (le_f (by omega) (by omega))]
    obtain ⟨v, hv⟩ := ce_ xs hL (j := 101 + k) (by omega)
    refine pb_i (u := v) (by rw [zl_101, nI_add]; exact hv) ?_
    obtain ⟨a, ha, ea⟩ := an_15 (v >>> ((4 : Int32) &&& 31))
    obtain ⟨b, hb, eb⟩ := an_255 (v >>> ((8 : Int32) &&& 31))
    rw [ea, eb]
    by_cases k0 : k = 0
    · have e : z = 0 := hbd.2.2.2 k0
      rw [if_pos (show nI k ≤ 0 by rw [k0]; decide)]
      exact lp_98 b98 h (Or.inl k0) (by rw [if_pos k0]; exact e) hB hV (by omega) hn ha hb (fun tx' cn' z' σ' t' h' hV' hB' => ih (k + 1) tx' cn' z' t' σ' (by omega) h' hV' hB')
    · rw [if_neg (show ¬ nI k ≤ 0 from le_f (b := 0) (by omega) (by omega))]
      refine pb_i (u := upd tx z 59) (wr_n (by omega) (by omega)) ?_
      rw [nI_1]
      exact lp_98 b98 (h.c k z σ t (fun j hj => pk_un (by omega)) (fun _ _ => rfl)) (Or.inr pk_us) (by rw [if_neg k0]) (hB.u (s := 59) (by omega)) hV (by omega) hn ha hb (fun tx' cn' z' σ' t' h' hV' hB' => ih (k + 1) tx' cn' z' t' σ' (by omega) h' hV' hB')
end BUILD
