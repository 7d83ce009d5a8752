/-! p40: what the law looks at (state, areSame), and its first part: a text with a wrong byte, the text itself -/
theorem init_all : HT h6 ∧ (∀ T, T < 6 → so6 T = -1) ∧ f_X6_init = some (h6, so6) := by
  obtain ⟨h, so, H, S, e⟩ := pm_init6
  have e1 : h6 = h := by
    unfold h6
    rw [e]
  have e2 : so6 = so := by
    unfold so6
    rw [e]
  rw [e1, e2]
  exact ⟨H, S, e⟩
theorem init_e : f_X6_init = some (h6, so6) := init_all.2.2
theorem h6_T : HT h6 := init_all.1
section STA
variable {h mn : Nat → Int32} {ms p e M wr wp : Int32}
theorem td_0 : f_X6_told 0 h mn ms p e M wr wp = some p := by
  unfold f_X6_told
  rw [if_pos rfl]
theorem td_1 : f_X6_told 1 h mn ms p e M wr wp = some e := by
  unfold f_X6_told
  rw [if_neg (by decide), if_pos rfl]
theorem td_2 : f_X6_told 2 h mn ms p e M wr wp = some M := by
  unfold f_X6_told
  rw [if_neg (by decide), if_neg (by decide), if_pos rfl]
theorem td_3 : f_X6_told 3 h mn ms p e M wr wp = some ms := by
  unfold f_X6_told
  rw [if_neg (by decide), if_neg (by decide), if_neg (by decide), if_pos rfl]
theorem td_4 : f_X6_told 4 h mn ms p e M wr wp = some wr := by
  unfold f_X6_told
  rw [if_neg (by decide), if_neg (by decide), if_neg (by decide), if_neg (by decide), if_pos rfl]
theorem td_5 : f_X6_told 5 h mn ms p e M wr wp = some wp := by
  unfold f_X6_told
  rw [if_neg (by decide), if_neg (by decide), if_neg (by decide), if_neg (by decide), if_neg (by decide), if_pos rfl]
theorem mo_ {i j a : Nat} (hi : i < a) (ha : a ≤ 6) (hj : j ≤ 1) : f_X6_markOf (nI i) (nI j) mn (nI a) = some (mn (3 * i + j)) := by
  unfold f_X6_markOf
  rw [if_neg (fun z => z.elim (m1_y (by omega) hi) (iw_y (a := 0) (b := 1) (by omega) hj (by omega))), nu_ hi (by omega) (by omega) (by omega) (by omega), ob_s]
theorem s7_ {k : Nat} {u : Int32} {r : Nat → Int32} {f : Nat} {K : (Nat → Int32) → Option (Nat → Int32)} (hk : k < 6) (ht : f_X6_told (nI k) h mn ms p e M wr wp = some u) : f_L_state_L7 K h mn ms p e M wr wp (f + 1) (nI k) r = f_L_state_L7 K h mn ms p e M wr wp f (nI (k + 1)) (upd r k u) := by
  rw [f_L_state_L7_s, zl_6, if_neg (le_f (by omega) (by omega)), ht, ob_s, wr_n (by omega) (by omega), ob_s, nI_1]
theorem s29_ {a : Nat} {K : (Nat → Int32) → Option (Nat → Int32)} (ha : a ≤ 6) : ∀ (d i f : Nat) (r : Nat → Int32), i + d = a → d < f → ∃ r', f_L_state_L29 K h mn (nI a) p e M wr wp f (nI i) r = K r' ∧ (∀ j, j < 6 + 2 * i → r' j = r j) ∧ (∀ i', i ≤ i' → i' < a → r' (6 + 2 * i') = mn (3 * i') + 1 ∧ r' (7 + 2 * i') = mn (3 * i' + 1) + 1) ∧ ∀ j, 6 + 2 * a ≤ j → r' j = r j := by
  intro d
  induction d with
  | zero =>
    intro i f r hi hf
    obtain ⟨f, rfl⟩ : ∃ g, f = g + 1 := ⟨f - 1, by omega⟩
    refine ⟨r, ?_, fun _ _ => rfl, fun i' h1 h2 => by omega, fun _ _ => rfl⟩
    rw [f_L_state_L29_s, td_3, ob_s, if_pos (le_t (by omega) (by omega))]
  | succ d ih =>
    intro i f r hi hf
    obtain ⟨f, rfl⟩ : ∃ g, f = g + 1 := ⟨f - 1, by omega⟩
    obtain ⟨r', a1, a2, a3, a4⟩ := ih (i + 1) f (upd (upd r (6 + 2 * i) (mn (3 * i) + 1)) (7 + 2 * i) (mn (3 * i + 1) + 1)) (by omega) (by omega)
    refine ⟨r', ?_, fun j hj => ?_, fun i' h1 h2 => ?_, fun j hj => ?_⟩
    · rw [f_L_state_L29_s, td_3, ob_s, if_neg (le_f (by omega) (by omega)), show f_X6_markOf (nI i) (0 : Int32) mn (nI a) = some (mn (3 * i)) from mo_ (j := 0) (by omega) ha (by omega), ob_s, show f_X6_markOf (nI i) (1 : Int32) mn (nI a) = some (mn (3 * i + 1)) from mo_ (j := 1) (by omega) ha (by omega)]
      rw [zl_2, pk_mul, zl_6, nI_add, wr_n (by omega) (by omega), ob_s, ob_s, zl_7, nI_add, wr_n (by omega) (by omega), ob_s, nI_1]
      exact a1
    · rw [a2 j (by omega), pk_un (by omega), pk_un (by omega)]
    · by_cases e : i' = i
      · subst e
        rw [a2 _ (by omega), a2 _ (by omega), pk_un (by omega), pk_us, pk_us]
        exact ⟨rfl, rfl⟩
      · exact a3 i' (by omega) h2
    · rw [a4 j hj, pk_un (by omega), pk_un (by omega)]
end STA
def STV (mn : Nat → Int32) (a : Nat) (p e M ms wr wp : Int32) (r : Nat → Int32) : Prop := r 0 = p ∧ r 1 = e ∧ r 2 = M ∧ r 3 = ms ∧ r 4 = wr ∧ r 5 = wp ∧ (∀ i, i < a → r (6 + 2 * i) = mn (3 * i) + 1 ∧ r (7 + 2 * i) = mn (3 * i + 1) + 1) ∧ ∀ j, 6 + 2 * a ≤ j → r j = 0
theorem st_ (h mn : Nat → Int32) {a : Nat} (ha : a ≤ 6) (p e M wr wp : Int32) : ∃ r, f_L_state h mn (nI a) p e M wr wp = some r ∧ STV mn a p e M (nI a) wr wp r := by
  unfold f_L_state
  rw [show (5000 : Nat) = 4993 + 1 + 1 + 1 + 1 + 1 + 1 + 1 from rfl, zl_0, s7_ (by omega) (show f_X6_told (nI 0) h mn (nI a) p e M wr wp = _ from td_0), s7_ (by omega) (show f_X6_told (nI 1) h mn (nI a) p e M wr wp = _ from td_1), s7_ (by omega) (show f_X6_told (nI 2) h mn (nI a) p e M wr wp = _ from td_2), s7_ (by omega) (show f_X6_told (nI 3) h mn (nI a) p e M wr wp = _ from td_3), s7_ (by omega) (show f_X6_told (nI 4) h mn (nI a) p e M wr wp = _ from td_4), s7_ (by omega) (show f_X6_told (nI 5) h mn (nI a) p e M wr wp = _ from td_5), f_L_state_L7_s, if_pos (show (6 : Int32) ≤ nI (5 + 1) from le_t (a := 6) (b := 6) (by omega) (by omega))]
  obtain ⟨r', a1, a2, a3, a4⟩ := s29_ (h := h) (mn := mn) (p := p) (e := e) (M := M) (wr := wr) (wp := wp) (K := fun xc_r_29 => some xc_r_29) ha a 0 (4993 + 1 + 1 + 1 + 1 + 1 + 1 + 1) (upd (upd (upd (upd (upd (upd (fun _ => nI 0) 0 p) 1 e) 2 M) 3 (nI a)) 4 wr) 5 wp) (by omega) (by omega)
  refine ⟨r', a1, ?_, ?_, ?_, ?_, ?_, ?_, fun i hi => a3 i (by omega) hi, fun j hj => ?_⟩
  · rw [a2 _ (by omega)]
    rfl
  · rw [a2 _ (by omega)]
    rfl
  · rw [a2 _ (by omega)]
    rfl
  · rw [a2 _ (by omega)]
    rfl
  · rw [a2 _ (by omega)]
    rfl
  · rw [a2 _ (by omega)]
    rfl
  · rw [a4 j hj, pk_un (by omega), pk_un (by omega), pk_un (by omega), pk_un (by omega), pk_un (by omega), pk_un (by omega)]
    rfl
theorem STV.u {mn mn' : Nat → Int32} {a : Nat} {p e M ms wr wp : Int32} {r r' : Nat → Int32} (x : STV mn a p e M ms wr wp r) (y : STV mn' a p e M ms wr wp r') (q : ∀ i, i < a → mn' (3 * i) = mn (3 * i) ∧ mn' (3 * i + 1) = mn (3 * i + 1)) : ∀ j, r j = r' j := by
  obtain ⟨x0, x1, x2, x3, x4, x5, x6, x7⟩ := x
  obtain ⟨y0, y1, y2, y3, y4, y5, y6, y7⟩ := y
  intro j
  by_cases c : 6 + 2 * a ≤ j
  · rw [x7 j c, y7 j c]
  · by_cases c2 : j < 6
    · have e : j = 0 ∨ j = 1 ∨ j = 2 ∨ j = 3 ∨ j = 4 ∨ j = 5 := by omega
      rcases e with rfl | rfl | rfl | rfl | rfl | rfl
      · rw [x0, y0]
      · rw [x1, y1]
      · rw [x2, y2]
      · rw [x3, y3]
      · rw [x4, y4]
      · rw [x5, y5]
    · obtain ⟨i, hi⟩ : ∃ i, j = 6 + 2 * i ∨ j = 7 + 2 * i := ⟨(j - 6) / 2, by omega⟩
      have hia : i < a := by omega
      have q1 := q i hia
      have x8 := x6 i hia
      have y8 := y6 i hia
      rcases hi with rfl | rfl
      · rw [x8.1, y8.1, q1.1]
      · rw [x8.2, y8.2, q1.2]
theorem sa_L {u v : Nat → Int32} (q : ∀ j, j < 20 → u j = v j) {K : Int32 → Option Int32} : ∀ (d i f : Nat), i + d = 20 → d < f → f_L_areSame_L4 K 20 20 u v f 1 (nI i) = K 1 := by
  intro d
  induction d with
  | zero =>
    intro i f hi hf
    obtain ⟨f, rfl⟩ : ∃ g, f = g + 1 := ⟨f - 1, by omega⟩
    rw [f_L_areSame_L4_s, zo_, if_pos (le_t (by omega) (by omega))]
  | succ d ih =>
    intro i f hi hf
    obtain ⟨f, rfl⟩ : ∃ g, f = g + 1 := ⟨f - 1, by omega⟩
    rw [f_L_areSame_L4_s, zo_, if_neg (le_f (by omega) (by omega)), rd_n (by omega) (by omega), ob_s, rd_n (by omega) (by omega), ob_s, if_pos (q i (by omega)), nI_1, show (1 : Int32) &&& 1 = 1 by decide]
    exact ih (i + 1) f (by omega) (by omega)
theorem sa_ {u v : Nat → Int32} (q : ∀ j, j < 20 → u j = v j) : f_L_areSame 20 20 u v = some 1 := by
  unfold f_L_areSame
  rw [zl_0, sa_L q 20 0 5000 (by omega) (by omega)]
  rfl
theorem fe_ {tx : Nat → Int32} {n s : Nat} (hs : s ≤ 127) (hn : n < 100) : f_X6_feed (nI s) tx (nI n) = some (nI (n + 1), upd tx n (nI s), nI (n + 1)) := by
  unfold f_X6_feed f_X2_add
  rw [if_neg (show ¬ f_X6_isWithin (nI s) 0 127 = 0 from iw_y (a := 0) (b := 127) (by omega) hs (by omega)), zo_, if_neg (fun z => z.elim (nI_pos (by omega)) (fun z => z (nI_lt hn (by omega)))), wr_n hn (by omega), ob_s, ob_s, nI_1]
section PHASE1
variable {K21 : KT_21} {K46 : KT_46} {K98 : KT_98} {K435 : KT_435} {K457 : KT_457} {K499 : KT_499} {K536 : KT_536} {K566 : KT_566} {K591 : KT_591} {L : Nat} {xs : Nat → Int32}
theorem lp_457 (b457 : BL_457 K457 K499 L xs) {xmn tx was : Nat → Int32} {xms xp xe xM xwr xwp t : Int32} {z w : Nat} (hz : z ≤ 100) (hB : BYT tx z)
    (hk : ∀ rt, (∀ j, j < z → rt j = if j = w then 33 else tx j) → K499 rt (nI z) xmn xms xp xe xM xwr xwp tx was (nI z) t (nI w)) :
    w < z → ∀ (d k : Nat) (rt : Nat → Int32), k + d = z → (∀ j, j < k → rt j = if j = w then 33 else tx j) → K457 rt (nI k) xmn xms xp xe xM xwr xwp tx was (nI z) t (nI w) (nI k) := by
  intro hw d
  induction d with
  | zero =>
    intro k rt hd q
    have e : k = z := by omega
    subst e
    refine b457 _ _ _ _ _ _ _ _ _ _ _ _ _ _ _ ?_
    unfold wp_457
    rw [if_pos (le_t (Nat.le_refl _) (by omega))]
    exact hk rt q
  | succ d ih =>
    intro k rt hd q
    refine b457 _ _ _ _ _ _ _ _ _ _ _ _ _ _ _ ?_
    unfold wp_457
    rw [if_neg (le_f (by omega) (by omega))]
    have key : ∀ s, s ≤ 127 → nI s = (if k = w then 33 else tx k) → (∀ j, j < k + 1 → upd rt k (nI s) j = if j = w then 33 else tx j) := by
      intro s _ e j hj
      by_cases c : j = k
      · subst c
        rw [pk_us]
        exact e
      · rw [pk_un c]
        exact q j (by omega)
    by_cases c : k = w
    · rw [if_pos (show nI k = nI w by rw [c])]
      refine pb_i (show f_X6_feed (33 : Int32) rt (nI k) = _ from fe_ (s := 33) (by omega) (by omega)) ?_
      dsimp only
      rw [nI_1, if_pos rfl]
      exact ih (k + 1) _ (by omega) (key 33 (by omega) (by rw [if_pos c]; rfl))
    · obtain ⟨s, hs, e⟩ := hB k (by omega)
      rw [if_neg (eq_f c (by omega) (by omega))]
      refine pb_i (rd_n (by omega) (by omega)) ?_
      rw [e]
      refine pb_i (fe_ hs (by omega)) ?_
      dsimp only
      rw [nI_1, if_pos rfl]
      exact ih (k + 1) _ (by omega) (key s hs (by rw [if_neg c]; exact e.symm))
theorem lp_536 (b536 : BL_536 K536 K566 L xs) {omn xmn tx : Nat → Int32} {oms op oe oM owr owp xms xp xe xM xwr xwp t : Int32} {z : Nat} (hz : z ≤ 100) (hB : BYT tx z)
    (hk : ∀ rt, (∀ j, j < z → rt j = tx j) → K566 omn oms op oe oM owr owp rt (nI z) xmn xms xp xe xM xwr xwp t) :
    ∀ (d k : Nat) (rt : Nat → Int32), k + d = z → (∀ j, j < k → rt j = tx j) → K536 omn oms op oe oM owr owp rt (nI k) xmn xms xp xe xM xwr xwp tx (nI z) t (nI k) := by
  intro d
  induction d with
  | zero =>
    intro k rt hd q
    have e : k = z := by omega
    subst e
    refine b536 _ _ _ _ _ _ _ _ _ _ _ _ _ _ _ _ _ _ _ _ ?_
    unfold wp_536
    rw [if_pos (le_t (Nat.le_refl _) (by omega))]
    exact hk rt q
  | succ d ih =>
    intro k rt hd q
    refine b536 _ _ _ _ _ _ _ _ _ _ _ _ _ _ _ _ _ _ _ _ ?_
    unfold wp_536
    rw [if_neg (le_f (by omega) (by omega))]
    obtain ⟨s, hs, e⟩ := hB k (by omega)
    refine pb_i (rd_n (by omega) (by omega)) ?_
    rw [e]
    refine pb_i (fe_ hs (by omega)) ?_
    dsimp only
    rw [nI_1, if_pos rfl]
    refine ih (k + 1) _ (by omega) (fun j hj => ?_)
    by_cases c : j = k
    · subst c
      rw [pk_us]
      exact e.symm
    · rw [pk_un c]
      exact q j (by omega)
theorem phase1 (hL : L ≤ 260) (b21 : BL_21 K21 K46 L xs) (b46 : BL_46 K46 K98 K435 L xs) (b98 : BL_98 K46 K98 L xs) (b435 : BL_435 K435 K457 L xs) (b457 : BL_457 K457 K499 L xs) (b499 : BL_499 K499 K536 L xs) (b536 : BL_536 K536 K566 L xs) (b566 : BL_566 K566 K591 L xs)
    (hk : ∀ σ : SG, VAL σ → K591 σ.1 σ.2.1 σ.2.2.1 σ.2.2.2.1 σ.2.2.2.2.1 σ.2.2.2.2.2.1 σ.2.2.2.2.2.2) : K21 := by
  refine b21 ?_
  unfold wp_21
  obtain ⟨v, hv⟩ := ce_ xs hL (j := 100) (by omega)
  refine pb_i (u := v) hv ?_
  obtain ⟨n, hn, en⟩ := an_31 v
  rw [en]
  refine pb_i (u := nI (n % 11)) (by rw [zl_11, md_n (by omega) (by omega) (by omega)]) ?_
  have hm := Nat.mod_lt n (show 0 < 11 by omega)
  rw [show (1 : Int32) + nI (n % 11) = nI (1 + n % 11) from nI_add 1 _]
  refine lp_46 hL b46 b98 (n := 1 + n % 11) (by omega) (by omega) ?_ (1 + n % 11) 0 (fun _ => 0) (fun _ => 0) 0 0 S0 (by omega) ⟨rfl, rfl, rfl⟩ val_0 (fun j hj => by omega)
  intro tx cn z σ t hT hV hB
  have hbd := TX.b _ z σ t hT
  refine b435 _ _ _ _ _ _ _ _ _ _ ?_
  unfold wp_435
  obtain ⟨was, w1, w2⟩ := st_ h6 (fun _ => 0) (a := 0) (by omega) 2 1 2 0 0
  refine pb_i (u := was) w1 ?_
  obtain ⟨v2, hv2⟩ := ce_ xs hL (j := 120) (by omega)
  refine pb_i (u := v2) hv2 ?_
  obtain ⟨q, hq, eq⟩ := un_1 v2
  rw [eq]
  refine pb_i (u := nI (q % z)) (md_n (by omega) (by omega) (by omega)) ?_
  have hw := Nat.mod_lt q (show 0 < z by omega)
  refine lp_457 b457 (by omega) hB ?_ hw z 0 (fun _ => 0) (by omega) (fun j hj => by omega)
  intro rt hrt
  refine b499 _ _ _ _ _ _ _ _ _ _ _ _ _ _ ?_
  unfold wp_499
  obtain ⟨c', s', hr⟩ := re_bad (tx2 := rt) (c0 := fun _ => 0) (cs := 0) (nx := 0) hT (by omega) (by omega) hw (by rw [hrt _ hw, if_pos rfl]) (fun j hj => by rw [hrt j (by omega), if_neg (by omega)]) (fun _ => 0) 0 2 1 2 0 0
  refine pb_i hr ?_
  dsimp only
  rw [if_pos rfl]
  refine pb_i (u := was) w1 ?_
  refine pb_i (sa_ (fun _ _ => rfl)) ?_
  rw [if_neg (show ¬ (1 : Int32) = 0 by decide)]
  refine pb_i (u := 0) rfl ?_
  rw [if_pos rfl]
  refine lp_536 b536 (z := z) (by omega) hB ?_ z 0 rt (by omega) (fun j hj => by omega)
  intro rt2 hrt2
  refine b566 _ _ _ _ _ _ _ _ _ _ _ _ _ _ _ _ _ ?_
  unfold wp_566
  intro nx c0 cs
  obtain ⟨c2, s2, n2, hr2⟩ := re_ok (tx2 := rt2) (c0 := c0) (cs := cs) (nx := nx) hT (by omega) (by omega) hrt2
  refine pb_i hr2 ?_
  dsimp only
  rw [if_pos rfl]
  obtain ⟨σ1, p2⟩ := σ
  obtain ⟨P, E, c, W0, W1, pe, mk, w3, w4, e2⟩ := hV
  have e2 : p2 = (nI c, nI P, nI E, nI (P ^ E), nI W0, nI W1) := e2
  subst e2
  obtain ⟨r, r1, r2⟩ := st_ h6 σ1 (a := c) mk.1 (nI P) (nI E) (nI (P ^ E)) (nI W0) (nI W1)
  refine pb_i (u := r) r1 ?_
  refine pb_i (u := r) r1 ?_
  refine pb_i (sa_ (fun _ _ => rfl)) ?_
  rw [if_neg (show ¬ (1 : Int32) = 0 by decide)]
  exact hk (σ1, nI c, nI P, nI E, nI (P ^ E), nI W0, nI W1) ⟨P, E, c, W0, W1, pe, mk, w3, w4, rfl⟩
end PHASE1
