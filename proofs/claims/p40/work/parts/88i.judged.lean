/-! p40: the fourth part of the law: rows told by shorts, judged; a book looked at; all as it was -/
theorem at_v {P E r c : Nat} (pe : PE P E) (hr : r ≤ 127) (hc : c < 2 ^ 31) : f_X6_at (nI r) (nI c) h6 (nI (P ^ E)) = some (nI (bn r c % P ^ E)) := by
  have hm := pe.m
  unfold f_X6_at
  rw [if_neg (ro_y hr), rm_3 ⟨by omega, by omega, hm.2.2.1⟩ h6_T, ob_s, RI_n hr hc]
theorem rm_v {P E r c : Nat} (pe : PE P E) (hr : r ≤ 127) (hc : c < 2 ^ 31) : f_X3_remainder (nI r) (nI c) h6 (nI (P ^ E)) = some (nI (bn r c % P ^ E)) := by
  have hm := pe.m
  rw [rm_3 ⟨by omega, by omega, hm.2.2.1⟩ h6_T, RI_n hr hc]
theorem lg_e (x : Int64) : lg_cmp x x = 0 := by
  unfold lg_cmp
  rw [if_neg (Int64.lt_irrefl), if_pos rfl]
theorem lg_n {x y : Int64} (hne : x ≠ y) : ¬ lg_cmp x y = 0 := by
  intro h
  unfold lg_cmp at h
  split at h
  · exact absurd h (by decide)
  · exact absurd h (by decide)
theorem cu_q : ∀ a < 80, ∀ b < 64, f_X4_cutToSort (nI 1) (Int32.toInt64 (nI (64 * a + b))) = some (lN (64 * a + b)) := by decide +kernel
theorem cu_s {r : Nat} (h : r < 5000) : f_X4_cutToSort 1 (Int32.toInt64 (nI r)) = some (lN r) := by
  have := cu_q (r / 64) (by omega) (r % 64) (by omega)
  rw [show 64 * (r / 64) + r % 64 = r by omega] at this
  exact this
section TAPE
variable {so le : Nat → Int32} {it : Nat → Int64} {i : Nat}
theorem it_a {k r : Nat} (hso : so 2 = 1) (hle : le 2 = nI (i + 1)) (hi : i ≤ 49) (hk : k ≤ i) (hr : r < 5000) : f_X6_item 2 (nI k) (Int32.toInt64 (nI r)) so le it = some (1, vp_updL it (60 * 2 + k) (lN r)) := by
  unfold f_X6_item
  rw [if_neg (show ¬ f_X4_isThere 2 = 0 by decide +kernel), show f_X4_sortOf (2 : Int32) so = some (so 2) from so_ (T := 2) (by omega), ob_s, hso, if_neg (show ¬ (1 : Int32) = -1 by decide), show f_X4_lengthOf (2 : Int32) le = some (le 2) from ln_ (T := 2) (by omega), ob_s, hle, if_neg (m1_y (by omega) (by omega)), show f_X4_put (2 : Int32) (nI k) (Int32.toInt64 (nI r)) so le it = _ from pt_ (T := 2) (L := i + 1) (by omega) hle (by omega) (by omega) (w := lN r) (by rw [hso]; exact cu_s hr), ob_s]
theorem jd_s {P E k : Nat} {x : Nat} {f : Nat} {K : Option Int32} (pe : PE P E) (hle : le 2 = nI (i + 1)) (hi : i ≤ 49) (hk : k ≤ i) (hit : it (60 * 2 + k) = lN x) (hx : x < 5000) : f_X6_judge_L68 K (nI i) 2 0 (nI (i + 1)) h6 (nI (P ^ E)) le it (f + 1) (nI k) = if x = bn i k % P ^ E then f_X6_judge_L68 K (nI i) 2 0 (nI (i + 1)) h6 (nI (P ^ E)) le it f (nI (k + 1)) else some (nI k) := by
  have hm := pe.m
  have hb := Nat.mod_lt (bn i k) (show 0 < P ^ E by omega)
  rw [f_X6_judge_L68_s, if_neg (nI_nlt (by omega) (by omega)), if_pos (nI_lt (by omega) (by omega)), show (0 : Int32) + nI k = nI k by rw [zl_0, nI_add, Nat.zero_add], show f_X4_value (2 : Int32) (nI k) le it = _ from va_ (T := 2) (L := i + 1) (by omega) hle (by omega) (by omega), ob_s, rm_v pe (by omega) (by omega), ob_s, hit, nI_l (by omega), nI_1]
  by_cases c : x = bn i k % P ^ E
  · rw [if_pos c, ← c, if_pos (lg_e _)]
  · rw [if_neg c, if_neg (lg_n (fun z => c ((lN_eq (by omega) (by omega)).mp z)))]
theorem jd_y {P E : Nat} {x : Nat → Nat} {K : Option Int32} (pe : PE P E) (hle : le 2 = nI (i + 1)) (hi : i ≤ 49) (hit : ∀ k, k ≤ i → it (60 * 2 + k) = lN (x k)) (hx : ∀ k, x k < 5000) : ∀ (d k f : Nat), k + d = i + 1 → d < f → (∀ j, j ≤ i → x j = bn i j % P ^ E) → f_X6_judge_L68 K (nI i) 2 0 (nI (i + 1)) h6 (nI (P ^ E)) le it f (nI k) = K := by
  intro d
  induction d with
  | zero =>
    intro k f hd hf q
    obtain ⟨f, rfl⟩ : ∃ g, f = g + 1 := ⟨f - 1, by omega⟩
    rw [f_X6_judge_L68_s, if_pos (nI_lt (by omega) (by omega))]
  | succ d ih =>
    intro k f hd hf q
    obtain ⟨f, rfl⟩ : ∃ g, f = g + 1 := ⟨f - 1, by omega⟩
    rw [jd_s pe hle hi (by omega) (hit k (by omega)) (hx k), if_pos (q k (by omega))]
    exact ih (k + 1) f (by omega) (by omega) q
theorem jd_x {P E w : Nat} {x : Nat → Nat} {K : Option Int32} (pe : PE P E) (hle : le 2 = nI (i + 1)) (hi : i ≤ 49) (hit : ∀ k, k ≤ i → it (60 * 2 + k) = lN (x k)) (hx : ∀ k, x k < 5000) (hw : w ≤ i) (hne : x w ≠ bn i w % P ^ E) : ∀ (d k f : Nat), k + d = w → d < f → (∀ j, j < w → x j = bn i j % P ^ E) → f_X6_judge_L68 K (nI i) 2 0 (nI (i + 1)) h6 (nI (P ^ E)) le it f (nI k) = some (nI w) := by
  intro d
  induction d with
  | zero =>
    intro k f hd hf q
    obtain ⟨f, rfl⟩ : ∃ g, f = g + 1 := ⟨f - 1, by omega⟩
    have e : k = w := by omega
    subst e
    rw [jd_s pe hle hi (by omega) (hit k (by omega)) (hx k), if_neg hne]
  | succ d ih =>
    intro k f hd hf q
    obtain ⟨f, rfl⟩ : ∃ g, f = g + 1 := ⟨f - 1, by omega⟩
    rw [jd_s pe hle hi (by omega) (hit k (by omega)) (hx k), if_pos (q k (by omega))]
    exact ih (k + 1) f (by omega) (by omega) q
theorem jd_0 {M : Int32} (hso : so 2 = 1) (hle : le 2 = nI (i + 1)) (hi : i ≤ 49) : f_X6_judge (nI i) 2 0 h6 M so le it = f_X6_judge_L68 (some (-5)) (nI i) 2 0 (nI (i + 1)) h6 M le it 5000 (nI 0) := by
  unfold f_X6_judge
  rw [if_neg (fun z => z.elim (ro_y (by omega)) (by decide +kernel)), show f_X4_sortOf (2 : Int32) so = some (so 2) from so_ (T := 2) (by omega), ob_s, hso, if_neg (show ¬ (1 : Int32) = -1 by decide), if_pos rfl, if_pos (show (0 : Int32) ≤ 0 by decide), show f_X4_lengthOf (2 : Int32) le = some (le 2) from ln_ (T := 2) (by omega), ob_s, hle, show nI (i + 1) - (0 : Int32) = nI (i + 1) from pk_sub (b := 0) (by omega)]
  rfl
theorem jd_2 {M : Int32} (hso : so 2 = 1) (hle : le 2 = nI (i + 1)) (hi : i ≤ 49) : f_X6_judge (nI i) 2 (nI (i + 1)) h6 M so le it = some 200 := by
  unfold f_X6_judge
  rw [if_neg (fun z => z.elim (ro_y (by omega)) (by decide +kernel)), show f_X4_sortOf (2 : Int32) so = some (so 2) from so_ (T := 2) (by omega), ob_s, hso, if_neg (show ¬ (1 : Int32) = -1 by decide), if_pos rfl, if_pos (show (0 : Int32) ≤ nI (i + 1) from le_t (a := 0) (by omega) (by omega)), show f_X4_lengthOf (2 : Int32) le = some (le 2) from ln_ (T := 2) (by omega), ob_s, hle, pk_sub (Nat.le_refl _), Nat.sub_self, show (5000 : Nat) = 4999 + 1 from rfl, f_X6_judge_L68_s, if_neg (show ¬ nI i < 0 from nI_nlt (b := 0) (a := i) (by omega) (by omega)), if_neg (show ¬ (0 : Int32) < nI 0 by decide)]
  rfl
theorem jd_m {M : Int32} (hso : so 2 = 1) (hi : i ≤ 49) : f_X6_judge (nI i) 2 (-1) h6 M so le it = some 200 := by
  unfold f_X6_judge
  rw [if_neg (fun z => z.elim (ro_y (by omega)) (by decide +kernel)), show f_X4_sortOf (2 : Int32) so = some (so 2) from so_ (T := 2) (by omega), ob_s, hso, if_neg (show ¬ (1 : Int32) = -1 by decide), if_pos rfl, if_neg (show ¬ (0 : Int32) ≤ -1 by decide)]
theorem jd_3 {M : Int32} (hso : so 3 = -1) (hi : i ≤ 49) : f_X6_judge (nI i) 3 0 h6 M so le it = some 200 := by
  unfold f_X6_judge
  rw [if_neg (fun z => z.elim (ro_y (by omega)) (by decide +kernel)), show f_X4_sortOf (3 : Int32) so = some (so 3) from so_ (T := 3) (by omega), ob_s, hso, if_pos rfl]
theorem jd_6 {M r : Int32} : f_X6_judge r 6 0 h6 M so le it = some (-1) := by
  unfold f_X6_judge
  rw [if_pos (Or.inr (by decide +kernel))]
theorem tp_a (hi : i ≤ 49) : ∃ it1, f_X6_tape 2 1 (nI (i + 1)) so le it = some (1, upd so 2 1, upd le 2 (nI (i + 1)), it1) := by
  obtain ⟨it1, _, _, e⟩ := be_ (T := 2) (L := i + 1) (by omega) (by omega) (x := 1) (Or.inr ⟨1, by omega, rfl⟩) so le it
  refine ⟨it1, ?_⟩
  unfold f_X6_tape
  rw [if_neg (show ¬ f_X4_isThere 2 = 0 by decide +kernel), if_neg (show ¬ (1 : Int32) = -1 by decide), if_neg (fun z => z.elim (by decide +kernel) (fun z => z (le_t (b := 60) (by omega) (by omega)))), if_pos (show (0 : Int32) ≤ nI (i + 1) from le_t (a := 0) (by omega) (by omega)), show f_X4_become (2 : Int32) 1 (nI (i + 1)) so le it = _ from e, ob_s]
end TAPE
section BOOK
variable {bk : Nat → Int32} {P E : Nat}
theorem bo_a {r x d : Nat} (hr : r ≤ 127) (hx : x ≤ 2400) (hd : d < 8) : f_X6_book (nI r) (nI x) bk (nI d) = some (nI (d + 1), up3 bk d (nI r) (nI x) 0, nI (d + 1)) := by
  unfold f_X6_book
  rw [if_neg (nI_nm1 (by omega)), if_neg (ro_y hr), if_neg (show ¬ f_X6_isWithin (nI x) 0 2400 = 0 from iw_y (a := 0) (b := 2400) (by omega) hx (by omega)), la_a (by omega) (by omega)]
  rfl
theorem lk_s {K : Option Int32} {d j r x f : Nat} (pe : PE P E) (hd : d ≤ 8) (hj : j < d) (hr : r ≤ 127) (hx : x < 5000) (h0 : bk (3 * j) = nI r) (h1 : bk (3 * j + 1) = nI x) : f_X6_looked_L2 K h6 bk (nI d) (nI (P ^ E)) (f + 1) (nI j) = if bn r 10 % P ^ E = x then f_X6_looked_L2 K h6 bk (nI d) (nI (P ^ E)) f (nI (j + 1)) else some (nI j) := by
  have hm := pe.m
  have hb := Nat.mod_lt (bn r 10) (show 0 < P ^ E by omega)
  have n0 : f_X1_number (nI j) (0 : Int32) 24 bk (nI d) = some (nI r) := by
    rw [zl_0, nu_ (by omega) (by omega) (by omega) (by omega) (by omega)]
    exact congrArg some h0
  have n1 : f_X1_number (nI j) (1 : Int32) 24 bk (nI d) = some (nI x) := by
    rw [zl_1, nu_ (by omega) (by omega) (by omega) (by omega) (by omega)]
    exact congrArg some h1
  rw [f_X6_looked_L2_s, if_neg (le_f (by omega) (by omega)), n0, ob_s, show f_X3_remainder (nI r) (10 : Int32) h6 (nI (P ^ E)) = _ from rm_v (c := 10) pe hr (by omega), ob_s, n1, ob_s, nI_1]
  by_cases c : bn r 10 % P ^ E = x
  · rw [if_pos c, if_pos (show nI (bn r 10 % P ^ E) = nI x by rw [c])]
  · rw [if_neg c, if_neg (eq_f c (by omega) (by omega))]
theorem lk_e {K : Option Int32} {d f : Nat} {M : Int32} (hd : d ≤ 8) : f_X6_looked_L2 K h6 bk (nI d) M (f + 1) (nI d) = K := by
  rw [f_X6_looked_L2_s, if_pos (le_t (Nat.le_refl _) (by omega))]
end BOOK
section PHASE4
variable {K1178 : KT_1178} {K1217 : KT_1217} {K1260 : KT_1260} {K1340 : KT_1340} {K1404 : KT_1404} {K1497 : KT_1497} {L : Nat} {xs : Nat → Int32}
theorem lp_1217 (b1217 : BL_1217 K1217 K1260 L xs) {mn bk nw so le : Nat → Int32} {ms e wr wp bs : Int32} {P E i : Nat} (pe : PE P E) (hso : so 2 = 1) (hle : le 2 = nI (i + 1)) (hi : i ≤ 49)
    (hk : ∀ it : Nat → Int64, (∀ k, k ≤ i → it (60 * 2 + k) = lN (bn i k % P ^ E)) → K1260 mn ms (nI P) e (nI (P ^ E)) wr wp bk bs so le it nw (nI i) 1) :
    ∀ (d k : Nat) (it : Nat → Int64), k + d = i + 1 → (∀ j, j < k → it (60 * 2 + j) = lN (bn i j % P ^ E)) → K1217 mn ms (nI P) e (nI (P ^ E)) wr wp bk bs so le it nw (nI i) 1 (nI k) := by
  have hm := pe.m
  intro d
  induction d with
  | zero =>
    intro k it hd q
    refine b1217 _ _ _ _ _ _ _ _ _ _ _ _ _ _ _ _ ?_
    unfold wp_1217
    rw [if_pos (nI_lt (by omega) (by omega))]
    exact hk it (fun k' h => q k' (by omega))
  | succ d ih =>
    intro k it hd q
    have hb := Nat.mod_lt (bn i k) (show 0 < P ^ E by omega)
    refine b1217 _ _ _ _ _ _ _ _ _ _ _ _ _ _ _ _ ?_
    unfold wp_1217
    rw [if_neg (nI_nlt (by omega) (by omega))]
    refine pb_i (at_v pe (by omega) (by omega)) ?_
    refine pb_i (it_a hso hle hi (by omega) (by omega)) ?_
    dsimp only
    rw [if_pos rfl, show (1 : Int32) &&& 1 = 1 by decide, nI_1]
    refine ih (k + 1) _ (by omega) (fun j hj => ?_)
    by_cases c : j = k
    · subst c
      rw [pk_uLs]
    · rw [pk_uLn (by omega)]
      exact q j (by omega)
theorem phase4 (hL : L ≤ 260) (b1178 : BL_1178 K1178 K1217 L xs) (b1217 : BL_1217 K1217 K1260 L xs) (b1260 : BL_1260 K1260 K1340 L xs) (b1340 : BL_1340 K1340 K1404 L xs) (b1404 : BL_1404 K1404 K1497 L xs) (b1497 : BL_1497 K1497 L xs)
    (mn en bk nw : Nat → Int32) (P E a W0 W1 : Nat) (es : Int32) (pe : PE P E) (hmk : MKS mn a) (w0 : W0 ≤ 127) (w1 : W1 ≤ 127) (hnw : STV mn a (nI P) (nI E) (nI (P ^ E)) (nI a) (nI W0) (nI W1) nw) : K1178 mn (nI a) (nI P) (nI E) (nI (P ^ E)) (nI W0) (nI W1) en es bk 0 nw := by
  have hm := pe.m
  refine b1178 _ _ _ _ _ _ _ _ _ _ _ _ ?_
  unfold wp_1178
  obtain ⟨v, hv⟩ := ce_ xs hL (j := 131) (by omega)
  refine pb_i (u := v) hv ?_
  obtain ⟨n, hn, en1⟩ := an_127 v
  rw [en1]
  refine pb_i (u := nI (n % 50)) (by rw [show (50 : Int32) = nI 50 from rfl, md_n (by omega) (by omega) (by omega)]) ?_
  have hmod := Nat.mod_lt n (show 0 < 50 by omega)
  have hi : n % 50 ≤ 49 := by omega
  generalize n % 50 = i at hi
  obtain ⟨it1, ht⟩ := tp_a (so := so6) (le := fun _ => 0) (it := fun _ => 0) hi
  refine pb_i (by rw [nI_1]; exact ht) ?_
  dsimp only
  rw [if_pos rfl]
  have hso : upd so6 2 1 2 = 1 := pk_us
  have hso3 : upd so6 2 1 3 = -1 := (pk_un (by omega)).trans (init_all.2.1 3 (by omega))
  have hle : upd (fun _ => 0) 2 (nI (i + 1)) 2 = nI (i + 1) := pk_us
  generalize upd so6 2 1 = so at hso hso3
  generalize upd (fun _ => (0 : Int32)) 2 (nI (i + 1)) = le at hle
  refine lp_1217 b1217 pe hso hle hi ?_ (i + 1) 0 it1 (by omega) (fun j hj => by omega)
  intro it hit
  have hx : ∀ k, bn i k % P ^ E < 5000 := fun k => by
    have := Nat.mod_lt (bn i k) (show 0 < P ^ E by omega)
    omega
  refine b1260 _ _ _ _ _ _ _ _ _ _ _ _ _ _ _ ?_
  unfold wp_1260
  refine pb_i (u := -5) (by rw [jd_0 hso hle hi]; exact jd_y (x := fun k => bn i k % P ^ E) pe hle hi hit hx (i + 1) 0 5000 (by omega) (by omega) (fun _ _ => rfl)) ?_
  rw [if_pos rfl]
  refine pb_i (u := 200) (by rw [nI_1]; exact jd_2 hso hle hi) ?_
  rw [if_pos rfl]
  refine pb_i (jd_m hso hi) ?_
  rw [if_pos rfl]
  refine pb_i (jd_3 hso3 hi) ?_
  rw [if_pos rfl]
  refine pb_i jd_6 ?_
  rw [if_pos rfl]
  refine b1340 _ _ _ _ _ _ _ _ _ _ _ _ _ _ _ _ ?_
  unfold wp_1340
  obtain ⟨v2, hv2⟩ := ce_ xs hL (j := 132) (by omega)
  refine pb_i (u := v2) hv2 ?_
  obtain ⟨n2, hn2, en2⟩ := an_127 v2
  rw [en2]
  refine pb_i (u := nI (n2 % (i + 1))) (by rw [nI_1, md_n (by omega) (by omega) (by omega)]) ?_
  have hw := Nat.mod_lt n2 (show 0 < i + 1 by omega)
  generalize n2 % (i + 1) = w at hw
  have hbw := Nat.mod_lt (bn i w) (show 0 < P ^ E by omega)
  refine pb_i (at_v pe (by omega) (by omega)) ?_
  refine pb_i (u := (1, vp_updL it (60 * 2 + w) (lN (bn i w % P ^ E + 2500)))) (by
    rw [show (2500 : Int32) = nI 2500 from rfl, nI_add]
    exact it_a hso hle hi (by omega) (by omega)) ?_
  dsimp only
  rw [if_pos rfl]
  refine pb_i (u := nI w) (by
    rw [jd_0 hso hle hi]
    refine jd_x (x := fun k => if k = w then bn i w % P ^ E + 2500 else bn i k % P ^ E) (w := w) pe hle hi (fun k hk => ?_) (fun k => ?_) (by omega) ?_ w 0 5000 (by omega) (by omega) (fun j hj => ?_)
    · by_cases c : k = w
      · subst c
        rw [pk_uLs, if_pos rfl]
      · rw [pk_uLn (by omega), if_neg c]
        exact hit k hk
    · have := hx k
      split <;> omega
    · rw [if_pos rfl]
      omega
    · exact if_neg (by omega)) ?_
  rw [if_pos rfl, show (1 : Int32) &&& 1 = 1 by decide]
  refine b1404 _ _ _ _ _ _ _ _ _ _ _ _ ?_
  unfold wp_1404
  obtain ⟨v3, hv3⟩ := ce_ xs hL (j := 133) (by omega)
  obtain ⟨v4, hv4⟩ := ce_ xs hL (j := 134) (by omega)
  refine pb_i (u := v3) hv3 ?_
  refine pb_i (u := v4) hv4 ?_
  obtain ⟨r1, hr1, er1⟩ := an_127 v3
  obtain ⟨r2, hr2, er2⟩ := an_127 v4
  rw [er1, er2, show (1 : Int32) &&& 1 = 1 by decide]
  have hb1 := Nat.mod_lt (bn r1 10) (show 0 < P ^ E by omega)
  have hb2 := Nat.mod_lt (bn r2 10) (show 0 < P ^ E by omega)
  refine pb_i (show f_X6_at (nI r1) (10 : Int32) h6 (nI (P ^ E)) = _ from at_v (c := 10) pe (by omega) (by omega)) ?_
  refine pb_i (show f_X6_book (nI r1) (nI (bn r1 10 % P ^ E)) bk 0 = _ from bo_a (d := 0) (by omega) (by omega) (by omega)) ?_
  dsimp only
  rw [if_pos (show nI (0 + 1) = 1 from rfl)]
  refine pb_i (u := -5) (by
    unfold f_X6_looked
    rw [show (5000 : Nat) = 4998 + 1 + 1 from rfl, zl_0, lk_s (j := 0) (r := r1) (x := bn r1 10 % P ^ E) pe (by omega) (by omega) (by omega) (by omega) u3_0 u3_1, if_pos rfl, lk_e (by omega)]) ?_
  rw [if_pos rfl]
  refine pb_i (show f_X6_at (nI r2) (10 : Int32) h6 (nI (P ^ E)) = _ from at_v (c := 10) pe (by omega) (by omega)) ?_
  refine pb_i (u := nI ((bn r2 10 % P ^ E + 1) % 2401)) (by rw [nI_1, show (2401 : Int32) = nI 2401 from rfl, md_n (by omega) (by omega) (by omega)]) ?_
  have hb3 := Nat.mod_lt (bn r2 10 % P ^ E + 1) (show 0 < 2401 by omega)
  refine pb_i (show f_X6_book (nI r2) (nI ((bn r2 10 % P ^ E + 1) % 2401)) (up3 bk 0 (nI r1) (nI (bn r1 10 % P ^ E)) 0) (nI 1) = _ from bo_a (d := 1) (by omega) (by omega) (by omega)) ?_
  dsimp only
  rw [if_pos (show nI (1 + 1) = 2 from rfl)]
  refine pb_i (u := nI 1) (by
    unfold f_X6_looked
    rw [show (5000 : Nat) = 4998 + 1 + 1 from rfl, show (0 : Int32) = nI 0 from rfl, lk_s (j := 0) (r := r1) (x := bn r1 10 % P ^ E) pe (by omega) (by omega) (by omega) (by omega) ((u3_n (by omega)).trans u3_0) ((u3_n (by omega)).trans u3_1), if_pos rfl, lk_s (j := 1) (r := r2) (x := (bn r2 10 % P ^ E + 1) % 2401) pe (by omega) (by omega) (by omega) (by omega) u3_0 u3_1, if_neg (by omega)]) ?_
  rw [if_pos (show nI 1 = 1 from rfl)]
  refine b1497 _ _ _ _ _ _ _ _ _ _ _ _ ?_
  unfold wp_1497
  intro en2 es2
  rw [show (1 : Int32) &&& 1 = 1 by decide, if_neg (show ¬ (1 : Int32) = 0 by decide)]
  refine pb_i (by
    unfold f_X6_book
    rw [if_neg (show ¬ (128 : Int32) = -1 by decide), if_pos (by decide +kernel)]) ?_
  dsimp only
  rw [if_pos rfl]
  refine pb_i (by
    unfold f_X6_book
    rw [if_pos rfl, em_1, ob_s]) ?_
  dsimp only
  rw [if_pos rfl]
  refine pb_i (u := -5) (by
    unfold f_X6_looked
    rw [show (5000 : Nat) = 4999 + 1 from rfl]
    exact lk_e (d := 0) (by omega)) ?_
  rw [if_pos rfl]
  refine pb_i (by
    unfold f_X6_event
    rw [if_neg (show ¬ (4 : Int32) = -1 by decide), if_neg (show ¬ (4 : Int32) = 0 by decide), if_neg (show ¬ (4 : Int32) = 1 by decide), if_neg (show ¬ (4 : Int32) = 2 by decide), if_neg (show ¬ (4 : Int32) = 3 by decide)]) ?_
  dsimp only
  rw [if_pos rfl]
  refine pb_i (by
    unfold f_X6_event f_X6_addEvent
    rw [if_neg (show ¬ (0 : Int32) = -1 by decide), if_pos rfl, if_pos (by decide +kernel), ob_s]) ?_
  dsimp only
  rw [if_pos rfl]
  obtain ⟨r, s1, s2⟩ := st_ h6 mn (a := a) hmk.1 (nI P) (nI E) (nI (P ^ E)) (nI W0) (nI W1)
  refine pb_i (u := r) s1 ?_
  refine pb_i (sa_ (fun j _ => s2.u hnw (fun _ _ => ⟨rfl, rfl⟩) j)) ?_
  rfl
end PHASE4
