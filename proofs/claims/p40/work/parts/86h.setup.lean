/-! the set-up: the class's cells beside the model's ints -/
theorem rg_0 {f : Nat → Int32} : rd_ f 64 0 = some (f 0) := rd_n (j := 0) (by omega) (by omega)
theorem wg_0 {f : Nat → Int32} {x : Int32} : wr_ f 64 0 x = some (upd f 0 x) := wr_n (j := 0) (by omega) (by omega)
theorem rg_1 {f : Nat → Int32} : rd_ f 64 1 = some (f 1) := rd_n (j := 1) (by omega) (by omega)
theorem wg_1 {f : Nat → Int32} {x : Int32} : wr_ f 64 1 x = some (upd f 1 x) := wr_n (j := 1) (by omega) (by omega)
theorem rg_2 {f : Nat → Int32} : rd_ f 64 2 = some (f 2) := rd_n (j := 2) (by omega) (by omega)
theorem wg_2 {f : Nat → Int32} {x : Int32} : wr_ f 64 2 x = some (upd f 2 x) := wr_n (j := 2) (by omega) (by omega)
theorem rg_3 {f : Nat → Int32} : rd_ f 64 3 = some (f 3) := rd_n (j := 3) (by omega) (by omega)
theorem wg_3 {f : Nat → Int32} {x : Int32} : wr_ f 64 3 x = some (upd f 3 x) := wr_n (j := 3) (by omega) (by omega)
theorem rg_4 {f : Nat → Int32} : rd_ f 64 4 = some (f 4) := rd_n (j := 4) (by omega) (by omega)
theorem wg_4 {f : Nat → Int32} {x : Int32} : wr_ f 64 4 x = some (upd f 4 x) := wr_n (j := 4) (by omega) (by omega)
theorem rg_17 {f : Nat → Int32} : rd_ f 64 17 = some (f 17) := rd_n (j := 17) (by omega) (by omega)
theorem wg_17 {f : Nat → Int32} {x : Int32} : wr_ f 64 17 x = some (upd f 17 x) := wr_n (j := 17) (by omega) (by omega)
theorem rg_30 {f : Nat → Int32} : rd_ f 64 30 = some (f 30) := rd_n (j := 30) (by omega) (by omega)
theorem wg_30 {f : Nat → Int32} {x : Int32} : wr_ f 64 30 x = some (upd f 30 x) := wr_n (j := 30) (by omega) (by omega)
theorem rg_47 {f : Nat → Int32} : rd_ f 64 47 = some (f 47) := rd_n (j := 47) (by omega) (by omega)
theorem wg_47 {f : Nat → Int32} {x : Int32} : wr_ f 64 47 x = some (upd f 47 x) := wr_n (j := 47) (by omega) (by omega)
theorem rc_5 {f : Nat → Int32} {i : Nat} (h : 5 + 2 * i < 64) : rd_ f 64 (5 + 2 * nI i) = some (f (5 + 2 * i)) := by
  rw [zl_2, pk_mul, zl_5, nI_add]
  exact rd_n h (by omega)
theorem wc_5 {f : Nat → Int32} {i : Nat} {x : Int32} (h : 5 + 2 * i < 64) : wr_ f 64 (5 + 2 * nI i) x = some (upd f (5 + 2 * i) x) := by
  rw [zl_2, pk_mul, zl_5, nI_add]
  exact wr_n h (by omega)
theorem rc_6 {f : Nat → Int32} {i : Nat} (h : 6 + 2 * i < 64) : rd_ f 64 (6 + 2 * nI i) = some (f (6 + 2 * i)) := by
  rw [zl_2, pk_mul, zl_6, nI_add]
  exact rd_n h (by omega)
theorem wc_6 {f : Nat → Int32} {i : Nat} {x : Int32} (h : 6 + 2 * i < 64) : wr_ f 64 (6 + 2 * nI i) x = some (upd f (6 + 2 * i) x) := by
  rw [zl_2, pk_mul, zl_6, nI_add]
  exact wr_n h (by omega)
theorem rc_31 {f : Nat → Int32} {i : Nat} (h : 31 + 2 * i < 64) : rd_ f 64 (31 + 2 * nI i) = some (f (31 + 2 * i)) := by
  rw [zl_2, pk_mul, zl_31, nI_add]
  exact rd_n h (by omega)
theorem wc_31 {f : Nat → Int32} {i : Nat} {x : Int32} (h : 31 + 2 * i < 64) : wr_ f 64 (31 + 2 * nI i) x = some (upd f (31 + 2 * i) x) := by
  rw [zl_2, pk_mul, zl_31, nI_add]
  exact wr_n h (by omega)
theorem rc_32 {f : Nat → Int32} {i : Nat} (h : 32 + 2 * i < 64) : rd_ f 64 (32 + 2 * nI i) = some (f (32 + 2 * i)) := by
  rw [zl_2, pk_mul, zl_32, nI_add]
  exact rd_n h (by omega)
theorem wc_32 {f : Nat → Int32} {i : Nat} {x : Int32} (h : 32 + 2 * i < 64) : wr_ f 64 (32 + 2 * nI i) x = some (upd f (32 + 2 * i) x) := by
  rw [zl_2, pk_mul, zl_32, nI_add]
  exact wr_n h (by omega)
theorem rc_48 {f : Nat → Int32} {i : Nat} (h : 48 + 2 * i < 64) : rd_ f 64 (48 + 2 * nI i) = some (f (48 + 2 * i)) := by
  rw [zl_2, pk_mul, zl_48, nI_add]
  exact rd_n h (by omega)
theorem wc_48 {f : Nat → Int32} {i : Nat} {x : Int32} (h : 48 + 2 * i < 64) : wr_ f 64 (48 + 2 * nI i) x = some (upd f (48 + 2 * i) x) := by
  rw [zl_2, pk_mul, zl_48, nI_add]
  exact wr_n h (by omega)
theorem rc_49 {f : Nat → Int32} {i : Nat} (h : 49 + 2 * i < 64) : rd_ f 64 (49 + 2 * nI i) = some (f (49 + 2 * i)) := by
  rw [zl_2, pk_mul, zl_49, nI_add]
  exact rd_n h (by omega)
theorem wc_49 {f : Nat → Int32} {i : Nat} {x : Int32} (h : 49 + 2 * i < 64) : wr_ f 64 (49 + 2 * nI i) x = some (upd f (49 + 2 * i) x) := by
  rw [zl_2, pk_mul, zl_49, nI_add]
  exact wr_n h (by omega)
theorem rs_0 {f : Nat → Int32} {i : Nat} (h : 18 + 3 * i < 64) : rd_ f 64 (18 + 3 * nI i) = some (f (18 + 3 * i)) := by
  rw [zl_3, pk_mul, zl_18, nI_add]
  exact rd_n h (by omega)
theorem wd_0 {f : Nat → Int32} {i : Nat} {x : Int32} (h : 18 + 3 * i < 64) : wr_ f 64 (18 + 3 * nI i) x = some (upd f (18 + 3 * i) x) := by
  rw [zl_3, pk_mul, zl_18, nI_add]
  exact wr_n h (by omega)
theorem rs_1 {f : Nat → Int32} {i : Nat} (h : 18 + 3 * i + 1 < 64) : rd_ f 64 (18 + 3 * nI i + 1) = some (f (18 + 3 * i + 1)) := by
  rw [zl_3, pk_mul, zl_18, nI_add, zl_1, nI_add]
  exact rd_n h (by omega)
theorem wd_1 {f : Nat → Int32} {i : Nat} {x : Int32} (h : 18 + 3 * i + 1 < 64) : wr_ f 64 (18 + 3 * nI i + 1) x = some (upd f (18 + 3 * i + 1) x) := by
  rw [zl_3, pk_mul, zl_18, nI_add, zl_1, nI_add]
  exact wr_n h (by omega)
theorem rs_2 {f : Nat → Int32} {i : Nat} (h : 18 + 3 * i + 2 < 64) : rd_ f 64 (18 + 3 * nI i + 2) = some (f (18 + 3 * i + 2)) := by
  rw [zl_3, pk_mul, zl_18, nI_add, zl_2, nI_add]
  exact rd_n h (by omega)
theorem wd_2 {f : Nat → Int32} {i : Nat} {x : Int32} (h : 18 + 3 * i + 2 < 64) : wr_ f 64 (18 + 3 * nI i + 2) x = some (upd f (18 + 3 * i + 2) x) := by
  rw [zl_3, pk_mul, zl_18, nI_add, zl_2, nI_add]
  exact wr_n h (by omega)
theorem i6_0 : nI 0 = 0 := rfl
theorem nI_e {a b : Nat} (h : a = b) : nI a = nI b := by rw [h]
def CS (b : Nat) (sn g : Nat → Int32) : Prop := b ≤ 4 ∧ g 17 = nI b ∧ ∀ i, i < b → g (18 + 3 * i) = sn (3 * i) ∧ g (18 + 3 * i + 1) = sn (3 * i + 1) ∧ g (18 + 3 * i + 2) = sn (3 * i + 2) ∧ ∃ r c, r ≤ 127 ∧ c ≤ r ∧ sn (3 * i) = nI r ∧ sn (3 * i + 1) = nI c
def EV (k n : Nat) : Prop := (k = 0 ∧ n = 0) ∨ (k = 1 ∧ 1 ≤ n ∧ n ≤ 4) ∨ (k = 2 ∧ n ≤ 99) ∨ (k = 3 ∧ n ≤ 5)
def CE (c : Nat) (en g : Nat → Int32) : Prop := c ≤ 8 ∧ g 30 = nI c ∧ ∀ i, i < c → g (31 + 2 * i) = en (3 * i) ∧ g (32 + 2 * i) = en (3 * i + 1) ∧ ∃ k n, EV k n ∧ en (3 * i) = nI k ∧ en (3 * i + 1) = nI n
def CB (d : Nat) (bk g : Nat → Int32) : Prop := d ≤ 8 ∧ g 47 = nI d ∧ ∀ i, i < d → g (48 + 2 * i) = bk (3 * i) ∧ g (49 + 2 * i) = bk (3 * i + 1)
section FRAMES
variable {P E a b c d W0 W1 : Nat} {g g' mn sn en bk : Nat → Int32}
theorem GP.f (x : GP g P E) (q : ∀ j, j < 2 → g' j = g j) : GP g' P E := ⟨by rw [q 0 (by omega)]; exact x.1, by rw [q 1 (by omega)]; exact x.2⟩
theorem GW.f (x : GW g W0 W1) (q : ∀ j, 2 ≤ j → j < 4 → g' j = g j) : GW g' W0 W1 := ⟨x.1, x.2.1, by rw [q 2 (by omega) (by omega)]; exact x.2.2.1, by rw [q 3 (by omega) (by omega)]; exact x.2.2.2⟩
theorem CM.f (x : CM a mn g) (q : ∀ j, 4 ≤ j → j < 17 → g' j = g j) : CM a mn g' := ⟨x.1, by rw [q 4 (by omega) (by omega)]; exact x.2.1, fun i hi => by
  have l := x.1
  rw [q (5 + 2 * i) (by omega) (by omega), q (6 + 2 * i) (by omega) (by omega)]
  exact x.2.2 i hi⟩
theorem CS.f (x : CS b sn g) (q : ∀ j, 17 ≤ j → j < 30 → g' j = g j) : CS b sn g' := ⟨x.1, by rw [q 17 (by omega) (by omega)]; exact x.2.1, fun i hi => by
  have l := x.1
  rw [q (18 + 3 * i) (by omega) (by omega), q (18 + 3 * i + 1) (by omega) (by omega), q (18 + 3 * i + 2) (by omega) (by omega)]
  exact x.2.2 i hi⟩
theorem CE.f (x : CE c en g) (q : ∀ j, 30 ≤ j → j < 47 → g' j = g j) : CE c en g' := ⟨x.1, by rw [q 30 (by omega) (by omega)]; exact x.2.1, fun i hi => by
  have l := x.1
  rw [q (31 + 2 * i) (by omega) (by omega), q (32 + 2 * i) (by omega) (by omega)]
  exact x.2.2 i hi⟩
theorem CB.f (x : CB d bk g) (q : ∀ j, 47 ≤ j → j < 64 → g' j = g j) : CB d bk g' := ⟨x.1, by rw [q 47 (by omega) (by omega)]; exact x.2.1, fun i hi => by
  have l := x.1
  rw [q (48 + 2 * i) (by omega) (by omega), q (49 + 2 * i) (by omega) (by omega)]
  exact x.2.2 i hi⟩
/-! class side: only what lies below the size counts -/
theorem CM.cc {mn' : Nat → Int32} (x : CM a mn g) (q : ∀ j, j < 3 * a → mn' j = mn j) : CM a mn' g := ⟨x.1, x.2.1, fun i hi => by
  rw [q (3 * i) (by omega), q (3 * i + 1) (by omega)]
  exact x.2.2 i hi⟩
theorem CS.cc {mn' : Nat → Int32} (x : CS a mn g) (q : ∀ j, j < 3 * a → mn' j = mn j) : CS a mn' g := ⟨x.1, x.2.1, fun i hi => by
  rw [q (3 * i) (by omega), q (3 * i + 1) (by omega), q (3 * i + 2) (by omega)]
  exact x.2.2 i hi⟩
theorem CE.cc {mn' : Nat → Int32} (x : CE a mn g) (q : ∀ j, j < 3 * a → mn' j = mn j) : CE a mn' g := ⟨x.1, x.2.1, fun i hi => by
  rw [q (3 * i) (by omega), q (3 * i + 1) (by omega)]
  exact x.2.2 i hi⟩
theorem CB.cc {mn' : Nat → Int32} (x : CB a mn g) (q : ∀ j, j < 3 * a → mn' j = mn j) : CB a mn' g := ⟨x.1, x.2.1, fun i hi => by
  rw [q (3 * i) (by omega), q (3 * i + 1) (by omega)]
  exact x.2.2 i hi⟩
end FRAMES
def SX (mn : Nat → Int32) (ms : Int32) (sn : Nat → Int32) (ss : Int32) (en : Nat → Int32) (es : Int32) (bk : Nat → Int32) (bs p e M wr wp : Int32) (g : Nat → Int32) : Prop := ∃ P E a b c d W0 W1 : Nat, PE P E ∧ GP g P E ∧ GW g W0 W1 ∧ CM a mn g ∧ CS b sn g ∧ CE c en g ∧ CB d bk g ∧ p = nI P ∧ e = nI E ∧ M = nI (P ^ E) ∧ wr = nI W0 ∧ wp = nI W1 ∧ ms = nI a ∧ ss = nI b ∧ es = nI c ∧ bs = nI d
/-! lines -/
def up3 (f : Nat → Int32) (a : Nat) (x y z : Int32) : Nat → Int32 := upd (upd (upd f (3 * a) x) (3 * a + 1) y) (3 * a + 2) z
theorem u3_0 {f : Nat → Int32} {a : Nat} {x y z : Int32} : up3 f a x y z (3 * a) = x := by
  unfold up3
  rw [pk_un (by omega), pk_un (by omega), pk_us]
theorem u3_1 {f : Nat → Int32} {a : Nat} {x y z : Int32} : up3 f a x y z (3 * a + 1) = y := by
  unfold up3
  rw [pk_un (by omega), pk_us]
theorem u3_2 {f : Nat → Int32} {a : Nat} {x y z : Int32} : up3 f a x y z (3 * a + 2) = z := by
  unfold up3
  rw [pk_us]
theorem u3_n {f : Nat → Int32} {a j : Nat} {x y z : Int32} (h : j < 3 * a) : up3 f a x y z j = f j := by
  unfold up3
  rw [pk_un (by omega), pk_un (by omega), pk_un (by omega)]
theorem la_f {f : Nat → Int32} {a n : Nat} {x y z : Int32} (h : n = 3 * a) (hn : n ≤ 36) (hn3 : 3 ≤ n) : f_X1_add x y z n f (nI a) = some (-4, f, nI a) := by
  unfold f_X1_add
  rw [zl_3, pk_mul, zo_, pk_sub hn3, if_pos (Or.inr (le_f (by omega) (by omega)))]
theorem la_a {f : Nat → Int32} {a n : Nat} {x y z : Int32} (h : 3 * a + 3 ≤ n) (hn : n ≤ 36) : f_X1_add x y z n f (nI a) = some (nI (a + 1), up3 f a x y z, nI (a + 1)) := by
  unfold f_X1_add up3
  rw [zl_3, pk_mul, zo_, pk_sub (by omega), if_neg (fun q => q.elim (nI_pos (by omega)) (fun q => q (le_t (by omega) (by omega)))), wr_n (by omega) (by omega), ob_s, nI_1, wr_n (by omega) (by omega), ob_s, zl_2, nI_add, wr_n (by omega) (by omega), ob_s, nI_1]
/-! the calls that write the set-up -/
section SETUP
variable {mn : Nat → Int32} {ms : Int32} {sn : Nat → Int32} {ss : Int32} {en : Nat → Int32} {es : Int32} {bk : Nat → Int32} {bs p e M wr wp : Int32} {g : Nat → Int32} {h : Nat → Int32} {t : TR}
theorem u1_n {f : Nat → Int32} {k j : Nat} {x : Int32} (q : j ≠ k) : upd f k x j = f j := pk_un q
theorem pm_prime (S : SX mn ms sn ss en es bk bs p e M wr wp g) (p0 : Int32) : ∃ r p' e' M' g', SX mn ms sn ss en es bk bs p' e' M' wr wp g' ∧ f_X6_prime p0 p e M = some (r, p', e', M') ∧ f_X7_prime p0 g = some (r, g') := by
  obtain ⟨P, E, a, b, c, d, W0, W1, h1, h2, h3, h4, h5, h6, h7, rfl, rfl, rfl, rfl, rfl, rfl, rfl, rfl, rfl⟩ := S
  unfold f_X6_prime f_X7_prime f_X7_isPrime
  by_cases q : p0 = 2 ∨ p0 = 3 ∨ p0 = 5 ∨ p0 = 7
  · have hP : ∃ P', (P' = 2 ∨ P' = 3 ∨ P' = 5 ∨ P' = 7) ∧ p0 = nI P' := by
      rcases q with rfl | rfl | rfl | rfl
      · exact ⟨2, by omega, rfl⟩
      · exact ⟨3, by omega, rfl⟩
      · exact ⟨5, by omega, rfl⟩
      · exact ⟨7, by omega, rfl⟩
    obtain ⟨P', hP', rfl⟩ := hP
    have pe : PE P' E := ⟨hP', h1.2⟩
    rw [if_neg (fun z => q.elim z.1 (fun q => q.elim z.2.1 (fun q => q.elim z.2.2.1 z.2.2.2))), if_pos q, if_neg (by decide)]
    unfold f_X3_become
    rw [pw_0 pe, rg_0, wg_0]
    refine ⟨nI P, nI P', nI E, nI (P' ^ E), upd g 0 (nI P'), ⟨P', E, a, b, c, d, W0, W1, pe, ⟨pk_us, by rw [pk_un (by omega)]; exact h2.2⟩, h3.f (fun j _ _ => pk_un (by omega)), h4.f (fun j _ _ => pk_un (by omega)), h5.f (fun j _ _ => pk_un (by omega)), h6.f (fun j _ _ => pk_un (by omega)), h7.f (fun j _ _ => pk_un (by omega)), rfl, rfl, rfl, rfl, rfl, rfl, rfl, rfl, rfl⟩, rfl, ?_⟩
    rw [ob_s, ob_s, h2.1]
  · rw [if_pos ⟨fun z => q (Or.inl z), fun z => q (Or.inr (Or.inl z)), fun z => q (Or.inr (Or.inr (Or.inl z))), fun z => q (Or.inr (Or.inr (Or.inr z)))⟩, if_neg q, if_pos rfl]
    exact ⟨_, _, _, _, _, ⟨P, E, a, b, c, d, W0, W1, h1, h2, h3, h4, h5, h6, h7, rfl, rfl, rfl, rfl, rfl, rfl, rfl, rfl, rfl⟩, rfl, rfl⟩
theorem pm_power_ (S : SX mn ms sn ss en es bk bs p e M wr wp g) (p0 : Int32) : ∃ r p' e' M' g', SX mn ms sn ss en es bk bs p' e' M' wr wp g' ∧ f_X6_power p0 p e M = some (r, p', e', M') ∧ f_X7_power_ p0 g = some (r, g') := by
  obtain ⟨P, E, a, b, c, d, W0, W1, h1, h2, h3, h4, h5, h6, h7, rfl, rfl, rfl, rfl, rfl, rfl, rfl, rfl, rfl⟩ := S
  unfold f_X6_power f_X7_power_
  rw [show f_X7_isIn (Int32.toInt64 p0) 1 4 = f_X6_isWithin p0 1 4 from ii_ p0 1 4]
  by_cases q : f_X6_isWithin p0 1 4 = 0
  · rw [if_pos q, if_pos q]
    exact ⟨_, _, _, _, _, ⟨P, E, a, b, c, d, W0, W1, h1, h2, h3, h4, h5, h6, h7, rfl, rfl, rfl, rfl, rfl, rfl, rfl, rfl, rfl⟩, rfl, rfl⟩
  · obtain ⟨E', rfl, l1, l2⟩ := iw_n (a := 1) (b := 4) q (by omega) (by omega)
    have pe : PE P E' := ⟨h1.1, l1, l2⟩
    rw [if_neg q, if_neg q]
    unfold f_X3_become
    rw [pw_0 pe, rg_1, wg_1]
    refine ⟨nI E, nI P, nI E', nI (P ^ E'), upd g 1 (nI E'), ⟨P, E', a, b, c, d, W0, W1, pe, ⟨by rw [pk_un (by omega)]; exact h2.1, pk_us⟩, h3.f (fun j _ _ => pk_un (by omega)), h4.f (fun j _ _ => pk_un (by omega)), h5.f (fun j _ _ => pk_un (by omega)), h6.f (fun j _ _ => pk_un (by omega)), h7.f (fun j _ _ => pk_un (by omega)), rfl, rfl, rfl, rfl, rfl, rfl, rfl, rfl, rfl⟩, rfl, ?_⟩
    rw [ob_s, ob_s, h2.2]
theorem pm_mark (S : SX mn ms sn ss en es bk bs p e M wr wp g) (p0 p1 : Int32) : ∃ r mn' ms' g', SX mn' ms' sn ss en es bk bs p e M wr wp g' ∧ f_X6_mark p0 p1 mn ms = some (r, mn', ms') ∧ f_X7_mark p0 p1 g = some (r, g') := by
  obtain ⟨P, E, a, b, c, d, W0, W1, h1, h2, h3, h4, h5, h6, h7, rfl, rfl, rfl, rfl, rfl, rfl, rfl, rfl, rfl⟩ := S
  unfold f_X6_mark f_X7_mark
  rw [ki_7, show f_X7_isIn (Int32.toInt64 p1) 0 2400 = f_X6_isWithin p1 0 2400 from ii_ p1 0 2400]
  by_cases q : f_X6_isWithin p0 0 4 = 0
  · rw [if_pos q, if_pos q]
    exact ⟨_, _, _, _, ⟨P, E, a, b, c, d, W0, W1, h1, h2, h3, h4, h5, h6, h7, rfl, rfl, rfl, rfl, rfl, rfl, rfl, rfl, rfl⟩, rfl, rfl⟩
  · rw [if_neg q, if_neg q]
    by_cases q2 : f_X6_isWithin p1 0 2400 = 0
    · rw [if_pos q2, if_pos q2]
      exact ⟨_, _, _, _, ⟨P, E, a, b, c, d, W0, W1, h1, h2, h3, h4, h5, h6, h7, rfl, rfl, rfl, rfl, rfl, rfl, rfl, rfl, rfl⟩, rfl, rfl⟩
    · rw [if_neg q2, if_neg q2, rg_4, ob_s, h4.2.1]
      obtain ⟨k, rfl, _, hk⟩ := iw_n (a := 0) (b := 4) q (by omega) (by omega)
      have la := h4.1
      by_cases q3 : a = 6
      · subst q3
        rw [la_f (a := 6) (n := 18) rfl (by omega) (by omega), if_pos (show nI 6 = 6 from rfl)]
        exact ⟨_, _, _, _, ⟨P, E, 6, b, c, d, W0, W1, h1, h2, h3, h4, h5, h6, h7, rfl, rfl, rfl, rfl, rfl, rfl, rfl, rfl, rfl⟩, rfl, rfl⟩
      · rw [la_a (by omega) (by omega), zl_6, if_neg (eq_f q3 (by omega) (by omega)), ← zl_6, ob_s, ob_s, wc_5 (by omega), ob_s, rg_4, ob_s, pk_un (by omega), h4.2.1, wc_6 (by omega), ob_s, rg_4, ob_s, pk_un (by omega), pk_un (by omega), h4.2.1, nI_1, wg_4, ob_s, rg_4, ob_s, pk_us]
        refine ⟨_, up3 mn a (nI k) p1 0, _, _, ⟨P, E, a + 1, b, c, d, W0, W1, h1, h2.f (fun j _ => ?_), h3.f (fun j _ _ => ?_), ⟨by omega, pk_us, fun i hi => ?_⟩, h5.f (fun j _ _ => ?_), h6.f (fun j _ _ => ?_), h7.f (fun j _ _ => ?_), rfl, rfl, rfl, rfl, rfl, rfl, rfl, rfl, rfl⟩, rfl, rfl⟩
        · rw [pk_un (by omega), pk_un (by omega), pk_un (by omega)]
        · rw [pk_un (by omega), pk_un (by omega), pk_un (by omega)]
        · by_cases z : i = a
          · subst z
            rw [pk_un (by omega), pk_un (by omega), pk_us, pk_un (by omega), pk_us, u3_0, u3_1]
            exact ⟨rfl, rfl, k, hk, rfl⟩
          · rw [pk_un (by omega), pk_un (by omega), pk_un (by omega), pk_un (by omega), pk_un (by omega), pk_un (by omega), u3_n (by omega), u3_n (by omega)]
            exact h4.2.2 i (by omega)
        · rw [pk_un (by omega), pk_un (by omega), pk_un (by omega)]
        · rw [pk_un (by omega), pk_un (by omega), pk_un (by omega)]
        · rw [pk_un (by omega), pk_un (by omega), pk_un (by omega)]
theorem pm_clear (S : SX mn ms sn ss en es bk bs p e M wr wp g) : ∃ r ms' g', SX mn ms' sn ss en es bk bs p e M wr wp g' ∧ f_X6_clear ms = some (r, ms') ∧ f_X7_clear g = some (r, g') ∧ 0 ≤ r := by
  obtain ⟨P, E, a, b, c, d, W0, W1, h1, h2, h3, h4, h5, h6, h7, rfl, rfl, rfl, rfl, rfl, rfl, rfl, rfl, rfl⟩ := S
  unfold f_X6_clear f_X7_clear f_X1_empty
  have la := h4.1
  refine ⟨nI a, nI 0, upd g 4 (nI 0), ⟨P, E, 0, b, c, d, W0, W1, h1, h2.f (fun j _ => pk_un (by omega)), h3.f (fun j _ _ => pk_un (by omega)), ⟨by omega, pk_us, fun i hi => by omega⟩, h5.f (fun j _ _ => pk_un (by omega)), h6.f (fun j _ _ => pk_un (by omega)), h7.f (fun j _ _ => pk_un (by omega)), rfl, rfl, rfl, rfl, rfl, rfl, rfl, rfl, rfl⟩, rfl, ?_, nI_pos' (by omega)⟩
  rw [rg_4, ob_s, wg_4, ob_s, h4.2.1]
  rfl
theorem pm_window (S : SX mn ms sn ss en es bk bs p e M wr wp g) (p0 p1 : Int32) : ∃ r wr' wp' g', SX mn ms sn ss en es bk bs p e M wr' wp' g' ∧ f_X6_window p0 p1 wr wp = some (r, wr', wp') ∧ f_X7_window p0 p1 g = some (r, g') := by
  obtain ⟨P, E, a, b, c, d, W0, W1, h1, h2, h3, h4, h5, h6, h7, rfl, rfl, rfl, rfl, rfl, rfl, rfl, rfl, rfl⟩ := S
  unfold f_X6_window f_X7_window
  rw [ro_7, ro_7]
  by_cases q : f_X6_isWithin p0 0 127 = 0 ∨ f_X6_isWithin p1 0 127 = 0
  · rw [if_pos q, if_pos (show f_X6_isRow p0 = 0 ∨ f_X6_isRow p1 = 0 from q)]
    exact ⟨_, _, _, _, ⟨P, E, a, b, c, d, W0, W1, h1, h2, h3, h4, h5, h6, h7, rfl, rfl, rfl, rfl, rfl, rfl, rfl, rfl, rfl⟩, rfl, rfl⟩
  · rw [if_neg q, if_neg (show ¬ (f_X6_isRow p0 = 0 ∨ f_X6_isRow p1 = 0) from q)]
    obtain ⟨X, rfl, _, hX⟩ := iw_n (a := 0) (b := 127) (fun z => q (Or.inl z)) (by omega) (by omega)
    obtain ⟨Y, rfl, _, hY⟩ := iw_n (a := 0) (b := 127) (fun z => q (Or.inr z)) (by omega) (by omega)
    rw [rg_2, ob_s, rg_3, ob_s, wg_2, ob_s, wg_3, ob_s, h3.2.2.1, h3.2.2.2]
    refine ⟨_, _, _, _, ⟨P, E, a, b, c, d, X, Y, h1, h2.f (fun j _ => ?_), ⟨hX, hY, ?_, pk_us⟩, h4.f (fun j _ _ => ?_), h5.f (fun j _ _ => ?_), h6.f (fun j _ _ => ?_), h7.f (fun j _ _ => ?_), rfl, rfl, rfl, rfl, rfl, rfl, rfl, rfl, rfl⟩, rfl, rfl⟩
    · rw [pk_un (by omega), pk_un (by omega)]
    · rw [pk_un (by omega), pk_us]
    · rw [pk_un (by omega), pk_un (by omega)]
    · rw [pk_un (by omega), pk_un (by omega)]
    · rw [pk_un (by omega), pk_un (by omega)]
    · rw [pk_un (by omega), pk_un (by omega)]
theorem pm_see (S : SX mn ms sn ss en es bk bs p e M wr wp g) (p0 p1 p2 : Int32) : ∃ r sn' ss' g', SX mn ms sn' ss' en es bk bs p e M wr wp g' ∧ f_X6_see p0 p1 p2 sn ss = some (r, sn', ss') ∧ f_X7_see p0 p1 p2 g = some (r, g') := by
  obtain ⟨P, E, a, b, c, d, W0, W1, h1, h2, h3, h4, h5, h6, h7, rfl, rfl, rfl, rfl, rfl, rfl, rfl, rfl, rfl⟩ := S
  unfold f_X6_see f_X7_see f_X1_empty
  rw [pl_7, show f_X7_isIn (Int32.toInt64 p2) 0 2400 = f_X6_isWithin p2 0 2400 from ii_ p2 0 2400]
  by_cases q0 : p0 = -1
  · rw [if_pos q0, if_pos q0, wg_17]
    refine ⟨_, _, nI 0, _, ⟨P, E, a, 0, c, d, W0, W1, h1, h2.f (fun j _ => pk_un (by omega)), h3.f (fun j _ _ => pk_un (by omega)), h4.f (fun j _ _ => pk_un (by omega)), ⟨by omega, pk_us, fun i hi => by omega⟩, h6.f (fun j _ _ => pk_un (by omega)), h7.f (fun j _ _ => pk_un (by omega)), rfl, rfl, rfl, rfl, rfl, rfl, rfl, rfl, rfl⟩, rfl, rfl⟩
  · rw [if_neg q0, if_neg q0]
    by_cases q : f_X6_isPlace p0 p1 = 0
    · rw [if_pos q, if_pos q]
      exact ⟨_, _, _, _, ⟨P, E, a, b, c, d, W0, W1, h1, h2, h3, h4, h5, h6, h7, rfl, rfl, rfl, rfl, rfl, rfl, rfl, rfl, rfl⟩, rfl, rfl⟩
    · rw [if_neg q, if_neg q]
      by_cases q2 : f_X6_isWithin p2 0 2400 = 0
      · rw [if_pos q2, if_pos q2]
        exact ⟨_, _, _, _, ⟨P, E, a, b, c, d, W0, W1, h1, h2, h3, h4, h5, h6, h7, rfl, rfl, rfl, rfl, rfl, rfl, rfl, rfl, rfl⟩, rfl, rfl⟩
      · rw [if_neg q2, if_neg q2, rg_17, ob_s, h5.2.1]
        obtain ⟨X, Y, rfl, rfl, hX, hY⟩ := pl_n q
        have lb := h5.1
        by_cases q3 : b = 4
        · subst q3
          rw [la_f (a := 4) (n := 12) rfl (by omega) (by omega), if_pos (show nI 4 = 4 from rfl)]
          exact ⟨_, _, _, _, ⟨P, E, a, 4, c, d, W0, W1, h1, h2, h3, h4, h5, h6, h7, rfl, rfl, rfl, rfl, rfl, rfl, rfl, rfl, rfl⟩, rfl, rfl⟩
        · rw [la_a (by omega) (by omega), zl_4, if_neg (eq_f q3 (by omega) (by omega)), ob_s, ob_s, wd_0 (by omega), ob_s, wd_1 (by omega), ob_s, wd_2 (by omega), ob_s, rg_17, ob_s, pk_un (by omega), pk_un (by omega), pk_un (by omega), h5.2.1, nI_1, wg_17, ob_s, rg_17, ob_s, pk_us]
          refine ⟨_, up3 sn b (nI X) (nI Y) p2, _, _, ⟨P, E, a, b + 1, c, d, W0, W1, h1, h2.f (fun j _ => ?_), h3.f (fun j _ _ => ?_), h4.f (fun j _ _ => ?_), ⟨by omega, pk_us, fun i hi => ?_⟩, h6.f (fun j _ _ => ?_), h7.f (fun j _ _ => ?_), rfl, rfl, rfl, rfl, rfl, rfl, rfl, rfl, rfl⟩, rfl, rfl⟩
          · rw [pk_un (by omega), pk_un (by omega), pk_un (by omega), pk_un (by omega)]
          · rw [pk_un (by omega), pk_un (by omega), pk_un (by omega), pk_un (by omega)]
          · rw [pk_un (by omega), pk_un (by omega), pk_un (by omega), pk_un (by omega)]
          · by_cases z : i = b
            · subst z
              rw [u3_0, u3_1, u3_2]
              refine ⟨?_, ?_, ?_, X, Y, hX, hY, rfl, rfl⟩
              · rw [pk_un (by omega), pk_un (by omega), pk_un (by omega), pk_us]
              · rw [pk_un (by omega), pk_un (by omega), pk_us]
              · rw [pk_un (by omega), pk_us]
            · rw [u3_n (by omega), u3_n (by omega), u3_n (by omega)]
              refine ⟨?_, ?_, ?_, (h5.2.2 i (by omega)).2.2.2⟩
              · rw [pk_un (by omega), pk_un (by omega), pk_un (by omega), pk_un (by omega)]
                exact (h5.2.2 i (by omega)).1
              · rw [pk_un (by omega), pk_un (by omega), pk_un (by omega), pk_un (by omega)]
                exact (h5.2.2 i (by omega)).2.1
              · rw [pk_un (by omega), pk_un (by omega), pk_un (by omega), pk_un (by omega)]
                exact (h5.2.2 i (by omega)).2.2.1
          · rw [pk_un (by omega), pk_un (by omega), pk_un (by omega), pk_un (by omega)]
          · rw [pk_un (by omega), pk_un (by omega), pk_un (by omega), pk_un (by omega)]
/-- the model's way to lay an event down -/
theorem ev_7 (h1 : ∃ P E, PE P E ∧ GP g P E) {c k n : Nat} (h6 : CE c en g) (hk : EV k n) : (c = 8 → f_X1_add (nI k) (nI n) 0 24 en (nI c) = some (-4, en, nI c)) ∧ (c ≠ 8 → ∃ g', f_X1_add (nI k) (nI n) 0 24 en (nI c) = some (nI (c + 1), up3 en c (nI k) (nI n) 0, nI (c + 1)) ∧ Option.bind (rd_ g 64 30) (fun g_10 => (Option.bind (wr_ g 64 (31 + (2 * g_10)) (nI k)) (fun w_11 => (Option.bind (rd_ w_11 64 30) (fun g_12 => (Option.bind (wr_ w_11 64 (32 + (2 * g_12)) (nI n)) (fun w_13 => (Option.bind (rd_ w_13 64 30) (fun g_14 => (Option.bind (wr_ w_13 64 30 (g_14 + 1)) (fun w_15 => (Option.bind (rd_ w_15 64 30) (fun g_16 => (some (g_16, w_15))))))))))))))) = some (nI (c + 1), g') ∧ (∀ j, (j < 30 ∨ 47 ≤ j) → g' j = g j) ∧ CE (c + 1) (up3 en c (nI k) (nI n) 0) g') := by
  refine ⟨fun e => by subst e; exact la_f rfl (by omega) (by omega), fun e => ?_⟩
  have lc := h6.1
  rw [la_a (by omega) (by omega), rg_30, ob_s, h6.2.1, wc_31 (by omega), ob_s, rg_30, ob_s, pk_un (by omega), h6.2.1, wc_32 (by omega), ob_s, rg_30, ob_s, pk_un (by omega), pk_un (by omega), h6.2.1, nI_1, wg_30, ob_s, rg_30, ob_s, pk_us]
  refine ⟨_, rfl, rfl, fun j hj => ?_, by omega, pk_us, fun i hi => ?_⟩
  · rw [pk_un (by omega), pk_un (by omega), pk_un (by omega)]
  · by_cases z : i = c
    · subst z
      rw [pk_un (by omega), pk_un (by omega), pk_us, pk_un (by omega), pk_us, u3_0, u3_1]
      exact ⟨rfl, rfl, k, n, hk, rfl, rfl⟩
    · rw [pk_un (by omega), pk_un (by omega), pk_un (by omega), pk_un (by omega), pk_un (by omega), pk_un (by omega), u3_n (by omega), u3_n (by omega)]
      exact h6.2.2 i (by omega)
end SETUP
