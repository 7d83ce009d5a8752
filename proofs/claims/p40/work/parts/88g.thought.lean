/-! p40: the second part of the law: events told, thought of; the image, the state, the marks kept aside -/
def qv (xs : Nat → Int32) (L i : Nat) : Int32 := (f_L_cell (nI (122 + i)) L xs).getD 0
def ek (xs : Nat → Int32) (L i : Nat) : Nat := (qv xs L i &&& 3).toNatClampNeg
def e3 (xs : Nat → Int32) (L i : Nat) : Nat := ((qv xs L i >>> ((2 : Int32) &&& 31)) &&& 3).toNatClampNeg
def e63 (xs : Nat → Int32) (L i : Nat) : Nat := ((qv xs L i >>> ((2 : Int32) &&& 31)) &&& 63).toNatClampNeg
def ev (xs : Nat → Int32) (L i : Nat) : Nat := if ek xs L i = 0 then 0 else if ek xs L i = 1 then 1 + e3 xs L i else if ek xs L i = 2 then e63 xs L i else e63 xs L i % 6
theorem cln {y : Int32} {b : Nat} (h : ∃ j, j < b ∧ y = nI j) (hb : b ≤ 256) : y = nI y.toNatClampNeg ∧ y.toNatClampNeg < b := by
  obtain ⟨j, hj, rfl⟩ := h
  rw [nI_clamp (by omega)]
  exact ⟨rfl, hj⟩
theorem ev_a {en : Nat → Int32} {k n c : Nat} (hE : EV k n) (hc : c < 8) : f_X6_event (nI k) (nI n) en (nI c) = some (nI (c + 1), up3 en c (nI k) (nI n) 0, nI (c + 1)) := by
  unfold f_X6_event
  rcases hE with ⟨rfl, rfl⟩ | ⟨rfl, l1, l2⟩ | ⟨rfl, l1⟩ | ⟨rfl, l1⟩
  · rw [if_neg (show ¬ nI 0 = (-1 : Int32) by decide), if_pos (show nI 0 = (0 : Int32) from rfl)]
    unfold f_X6_addEvent
    rw [if_neg (show ¬ f_X6_isWithin (nI 0) 0 0 = 0 from iw_y (a := 0) (b := 0) (by omega) (by omega) (by omega)), la_a (by omega) (by omega)]
    rfl
  · rw [if_neg (show ¬ nI 1 = (-1 : Int32) by decide), if_neg (show ¬ nI 1 = (0 : Int32) by decide), if_pos (show nI 1 = (1 : Int32) from rfl)]
    unfold f_X6_addEvent
    rw [if_neg (show ¬ f_X6_isWithin (nI n) 1 4 = 0 from iw_y (a := 1) (b := 4) l1 l2 (by omega)), la_a (by omega) (by omega)]
    rfl
  · rw [if_neg (show ¬ nI 2 = (-1 : Int32) by decide), if_neg (show ¬ nI 2 = (0 : Int32) by decide), if_neg (show ¬ nI 2 = (1 : Int32) by decide), if_pos (show nI 2 = (2 : Int32) from rfl)]
    unfold f_X6_addEvent
    rw [if_neg (show ¬ f_X6_isWithin (nI n) 0 99 = 0 from iw_y (a := 0) (b := 99) (by omega) l1 (by omega)), la_a (by omega) (by omega)]
    rfl
  · rw [if_neg (show ¬ nI 3 = (-1 : Int32) by decide), if_neg (show ¬ nI 3 = (0 : Int32) by decide), if_neg (show ¬ nI 3 = (1 : Int32) by decide), if_neg (show ¬ nI 3 = (2 : Int32) by decide), if_pos (show nI 3 = (3 : Int32) from rfl)]
    unfold f_X6_addEvent
    rw [if_neg (show ¬ f_X6_isWithin (nI n) 0 5 = 0 from iw_y (a := 0) (b := 5) (by omega) l1 (by omega)), la_a (by omega) (by omega)]
    rfl
/-- the numbers of a set-up's start of events -/
def A0 (P E a W0 : Nat) (mn : Nat → Int32) : AB := (P, E, a, W0, fun j => mn (3 * j), fun j => mn (3 * j + 1))
section PHASE2
variable {K591 : KT_591} {K608 : KT_608} {K684 : KT_684} {K709 : KT_709} {K761 : KT_761} {K783 : KT_783} {K829 : KT_829} {L : Nat} {xs : Nat → Int32}
theorem qv_e (hL : L ≤ 260) {i : Nat} (hi : i < 1000) : f_L_cell (nI (122 + i)) L xs = some (qv xs L i) := by
  obtain ⟨v, hv⟩ := ce_ xs hL (j := 122 + i) (by omega)
  unfold qv
  rw [hv]
  rfl
theorem ev_E (i : Nat) : EV (ek xs L i) (ev xs L i) := by
  have h1 : ek xs L i < 4 := (cln (an_3 (qv xs L i)) (by omega)).2
  have h2 : e3 xs L i < 4 := (cln (an_3 (qv xs L i >>> ((2 : Int32) &&& 31))) (by omega)).2
  have h3 : e63 xs L i < 64 := (cln (an_63 (qv xs L i >>> ((2 : Int32) &&& 31))) (by omega)).2
  have h4 := Nat.mod_lt (e63 xs L i) (show 0 < 6 by omega)
  unfold EV ev
  by_cases c0 : ek xs L i = 0
  · rw [if_pos c0]
    exact Or.inl ⟨c0, rfl⟩
  · rw [if_neg c0]
    by_cases c1 : ek xs L i = 1
    · rw [if_pos c1]
      exact Or.inr (Or.inl ⟨c1, by omega, by omega⟩)
    · rw [if_neg c1]
      by_cases c2 : ek xs L i = 2
      · rw [if_pos c2]
        exact Or.inr (Or.inr (Or.inl ⟨c2, by omega⟩))
      · rw [if_neg c2]
        exact Or.inr (Or.inr (Or.inr ⟨by omega, by omega⟩))
theorem lp_608 (hL : L ≤ 260) (b608 : BL_608 K608 K684 K709 L xs) (b684 : BL_684 K608 K684 L xs) {mn : Nat → Int32} {ms p e M wr wp : Int32} {c : Nat} (hc : c ≤ 8) (hk : ∀ en, CEV en (ek xs L) (ev xs L) c → K709 mn ms p e M wr wp en (nI c) (nI c)) :
    ∀ (d r : Nat) (en : Nat → Int32), r + d = c → CEV en (ek xs L) (ev xs L) r → K608 mn ms p e M wr wp en (nI r) (nI c) (nI r) := by
  intro d
  induction d with
  | zero =>
    intro r en hd q
    have e1 : r = c := by omega
    subst e1
    refine b608 _ _ _ _ _ _ _ _ _ _ _ ?_
    unfold wp_608
    rw [if_pos (le_t (Nat.le_refl _) (by omega))]
    exact hk en q
  | succ d ih =>
    intro r en hd q
    refine b608 _ _ _ _ _ _ _ _ _ _ _ ?_
    unfold wp_608
    rw [if_neg (le_f (by omega) (by omega))]
    refine pb_i (u := qv xs L r) (by rw [show (122 : Int32) = nI 122 from rfl, nI_add]; exact qv_e hL (by omega)) ?_
    have hE := ev_E (xs := xs) (L := L) r
    have q3 : qv xs L r &&& 3 = nI (ek xs L r) := (cln (an_3 (qv xs L r)) (by omega)).1
    have h1 : ek xs L r < 4 := (cln (an_3 (qv xs L r)) (by omega)).2
    have w3 : (qv xs L r >>> ((2 : Int32) &&& 31)) &&& 3 = nI (e3 xs L r) := (cln (an_3 (qv xs L r >>> ((2 : Int32) &&& 31))) (by omega)).1
    have w63 : (qv xs L r >>> ((2 : Int32) &&& 31)) &&& 63 = nI (e63 xs L r) := (cln (an_63 (qv xs L r >>> ((2 : Int32) &&& 31))) (by omega)).1
    have h63 : e63 xs L r < 64 := (cln (an_63 (qv xs L r >>> ((2 : Int32) &&& 31))) (by omega)).2
    rw [q3, w3, w63]
    have key : K684 mn ms p e M wr wp en (nI r) (nI c) (nI r) (nI (ek xs L r)) (nI (ev xs L r)) := by
      refine b684 _ _ _ _ _ _ _ _ _ _ _ _ _ ?_
      unfold wp_684
      refine pb_i (ev_a hE (by omega)) ?_
      dsimp only
      rw [nI_1, if_pos rfl]
      refine ih (r + 1) _ (by omega) (fun i hi => ?_)
      by_cases e1 : i = r
      · subst e1
        exact ⟨u3_0, u3_1⟩
      · rw [u3_n (by omega), u3_n (by omega)]
        exact q i (by omega)
    by_cases c0 : ek xs L r = 0
    · have e1 : ev xs L r = 0 := by
        unfold ev
        rw [if_pos c0]
      rw [if_pos (show nI (ek xs L r) = 0 by rw [c0]; rfl)]
      rw [e1] at key
      exact key
    · rw [if_neg (show ¬ nI (ek xs L r) = 0 from eq_f (b := 0) c0 (by omega) (by omega))]
      by_cases c1 : ek xs L r = 1
      · have e1 : ev xs L r = 1 + e3 xs L r := by
          unfold ev
          rw [if_neg c0, if_pos c1]
        rw [if_pos (show nI (ek xs L r) = 1 by rw [c1]; rfl), show (1 : Int32) + nI (e3 xs L r) = nI (1 + e3 xs L r) from nI_add 1 _]
        rw [e1] at key
        exact key
      · rw [if_neg (show ¬ nI (ek xs L r) = 1 from eq_f (b := 1) c1 (by omega) (by omega))]
        by_cases c2 : ek xs L r = 2
        · have e1 : ev xs L r = e63 xs L r := by
            unfold ev
            rw [if_neg c0, if_neg c1, if_pos c2]
          rw [if_pos (show nI (ek xs L r) = 2 by rw [c2]; rfl)]
          rw [e1] at key
          exact key
        · have e1 : ev xs L r = e63 xs L r % 6 := by
            unfold ev
            rw [if_neg c0, if_neg c1, if_neg c2]
          rw [if_neg (show ¬ nI (ek xs L r) = 2 from eq_f (b := 2) c2 (by omega) (by omega))]
          refine pb_i (u := nI (e63 xs L r % 6)) (by rw [zl_6, md_n (by omega) (by omega) (by omega)]) ?_
          rw [e1] at key
          exact key
theorem lp_783 (b783 : BL_783 K783 K829 L xs) {mn en kmn ken kbk th nw : Nat → Int32} {p e M wr wp es kms kes kbs kp ke kwr kwp hi v9 : Int32} {a : Nat} (ha : a ≤ 6)
    (hk : ∀ mk, (∀ i, i < a → mk (2 * i) = mn (3 * i) ∧ mk (2 * i + 1) = mn (3 * i + 1)) → K829 mn (nI a) p e M wr wp en es kmn kms ken kes kbk kbs kp ke kwr kwp hi th nw mk v9 (nI a) 0) :
    ∀ (d k : Nat) (mk : Nat → Int32), k + d = a → (∀ i, i < k → mk (2 * i) = mn (3 * i) ∧ mk (2 * i + 1) = mn (3 * i + 1)) → K783 mn (nI a) p e M wr wp en es kmn kms ken kes kbk kbs kp ke kwr kwp hi th nw mk v9 (nI a) (nI k) := by
  intro d
  induction d with
  | zero =>
    intro k mk hd q
    have e1 : k = a := by omega
    subst e1
    refine b783 _ _ _ _ _ _ _ _ _ _ _ _ _ _ _ _ _ _ _ _ _ _ _ _ _ _ ?_
    unfold wp_783
    rw [if_pos (le_t (Nat.le_refl _) (by omega))]
    exact hk mk q
  | succ d ih =>
    intro k mk hd q
    refine b783 _ _ _ _ _ _ _ _ _ _ _ _ _ _ _ _ _ _ _ _ _ _ _ _ _ _ ?_
    unfold wp_783
    rw [if_neg (le_f (by omega) (by omega))]
    refine pb_i (u := mn (3 * k)) (mo_ (j := 0) (by omega) ha (by omega)) ?_
    refine pb_i (u := upd mk (2 * k) (mn (3 * k))) (by rw [zl_2, pk_mul]; exact wr_n (by omega) (by omega)) ?_
    refine pb_i (u := mn (3 * k + 1)) (mo_ (j := 1) (by omega) ha (by omega)) ?_
    refine pb_i (u := upd (upd mk (2 * k) (mn (3 * k))) (2 * k + 1) (mn (3 * k + 1))) (by rw [zl_2, pk_mul, nI_1]; exact wr_n (by omega) (by omega)) ?_
    rw [nI_1]
    refine ih (k + 1) _ (by omega) (fun i hi2 => ?_)
    by_cases e1 : i = k
    · subst e1
      rw [pk_un (by omega), pk_us, pk_us]
      exact ⟨rfl, rfl⟩
    · rw [pk_un (by omega), pk_un (by omega), pk_un (by omega), pk_un (by omega)]
      exact q i (by omega)
theorem phase2 (hL : L ≤ 260) (b591 : BL_591 K591 K608 L xs) (b608 : BL_608 K608 K684 K709 L xs) (b684 : BL_684 K608 K684 L xs) (b709 : BL_709 K709 K761 L xs) (b761 : BL_761 K761 K783 L xs) (b783 : BL_783 K783 K829 L xs)
    (hk : ∀ (mn en kmn ken kbk th nw mk : Nat → Int32) (P E a W0 W1 c : Nat), VAB (A0 P E a W0 mn) → W1 ≤ 127 → c ≤ 8 → (∀ j, j < 18 → kmn j = mn j) → (∀ q, q ≤ 2 → th q = AV h6 (ABs (ek xs L) (ev xs L) (A0 P E a W0 mn) c) W1 q) → STV mn a (nI P) (nI E) (nI (P ^ E)) (nI a) (nI W0) (nI W1) nw → (∀ i, i < a → mk (2 * i) = mn (3 * i) ∧ mk (2 * i + 1) = mn (3 * i + 1)) →
      K829 mn (nI a) (nI P) (nI E) (nI (P ^ E)) (nI W0) (nI W1) en (nI c) kmn (nI a) ken (nI c) kbk 0 (nI P) (nI E) (nI W0) (nI W1) 1 th nw mk (nI c) (nI a) 0)
    (σ : SG) (hV : VAL σ) : K591 σ.1 σ.2.1 σ.2.2.1 σ.2.2.2.1 σ.2.2.2.2.1 σ.2.2.2.2.2.1 σ.2.2.2.2.2.2 := by
  obtain ⟨mn, p2⟩ := σ
  obtain ⟨P, E, a, W0, W1, pe, mk, w0, w1, e2⟩ := hV
  have e2 : p2 = (nI a, nI P, nI E, nI (P ^ E), nI W0, nI W1) := e2
  subst e2
  have mk : MKS mn a := mk
  have hVA : VAB (A0 P E a W0 mn) := ⟨pe, mk.1, w0, mk.2⟩
  refine b591 _ _ _ _ _ _ _ ?_
  unfold wp_591
  obtain ⟨v, hv⟩ := ce_ xs hL (j := 121) (by omega)
  refine pb_i (u := v) hv ?_
  obtain ⟨n, hn, en⟩ := an_31 v
  rw [en]
  refine pb_i (u := nI (n % 9)) (by rw [zl_9, md_n (by omega) (by omega) (by omega)]) ?_
  have hm := Nat.mod_lt n (show 0 < 9 by omega)
  have hc : n % 9 ≤ 8 := by omega
  generalize n % 9 = c at hc
  refine lp_608 hL b608 b684 hc ?_ c 0 (fun _ => 0) (by omega) (fun i hi => by omega)
  intro en hen
  have hE : ∀ i, i < c → EV (ek xs L i) (ev xs L i) := fun i _ => ev_E i
  have hr : ROW (A0 P E a W0 mn) mn := fun j _ => ⟨rfl, rfl⟩
  refine b709 _ _ _ _ _ _ _ _ _ _ ?_
  unfold wp_709
  obtain ⟨u1, a1, v1⟩ := af_v (q := 0) (A := A0 P E a W0 mn) (sn := fun _ => 0) (bk := fun _ => 0) (ss := 0) (bs := 0) (tmn := fun _ => 0) (tsn := fun _ => 0) (ten := fun _ => 0) (tbk := fun _ => 0) (tms := 0) (tss := 0) (tes := 0) (tbs := 0) (tp := 2) (te := 1) (tM := 2) (twr := 0) (twp := 0) h6_T hc hVA hE hen hr w1 (by omega)
  refine pb_i (u := u1) a1 ?_
  refine pb_i (u := upd (fun _ => 0) 0 u1.1) (wr_n (j := 0) (by omega) (by omega)) ?_
  obtain ⟨u2, a2, v2⟩ := af_v (q := 1) (A := A0 P E a W0 mn) (sn := fun _ => 0) (bk := fun _ => 0) (ss := 0) (bs := 0) (tmn := u1.2.1) (tms := u1.2.2.1) (tsn := u1.2.2.2.1) (tss := u1.2.2.2.2.1) (ten := u1.2.2.2.2.2.1) (tes := u1.2.2.2.2.2.2.1) (tbk := u1.2.2.2.2.2.2.2.1) (tbs := u1.2.2.2.2.2.2.2.2.1) (tp := u1.2.2.2.2.2.2.2.2.2.1) (te := u1.2.2.2.2.2.2.2.2.2.2.1) (tM := u1.2.2.2.2.2.2.2.2.2.2.2.1) (twr := u1.2.2.2.2.2.2.2.2.2.2.2.2.1) (twp := u1.2.2.2.2.2.2.2.2.2.2.2.2.2) h6_T hc hVA hE hen hr w1 (by omega)
  refine pb_i (u := u2) a2 ?_
  refine pb_i (u := upd (upd (fun _ => 0) 0 u1.1) 1 u2.1) (wr_n (j := 1) (by omega) (by omega)) ?_
  obtain ⟨u3, a3, v3⟩ := af_v (q := 2) (A := A0 P E a W0 mn) (sn := fun _ => 0) (bk := fun _ => 0) (ss := 0) (bs := 0) (tmn := u2.2.1) (tms := u2.2.2.1) (tsn := u2.2.2.2.1) (tss := u2.2.2.2.2.1) (ten := u2.2.2.2.2.2.1) (tes := u2.2.2.2.2.2.2.1) (tbk := u2.2.2.2.2.2.2.2.1) (tbs := u2.2.2.2.2.2.2.2.2.1) (tp := u2.2.2.2.2.2.2.2.2.2.1) (te := u2.2.2.2.2.2.2.2.2.2.2.1) (tM := u2.2.2.2.2.2.2.2.2.2.2.2.1) (twr := u2.2.2.2.2.2.2.2.2.2.2.2.2.1) (twp := u2.2.2.2.2.2.2.2.2.2.2.2.2.2) h6_T hc hVA hE hen hr w1 (by omega)
  refine pb_i (u := u3) a3 ?_
  refine pb_i (u := upd (upd (upd (fun _ => 0) 0 u1.1) 1 u2.1) 2 u3.1) (wr_n (j := 2) (by omega) (by omega)) ?_
  refine pb_i (u := (nI (P ^ E), va_cpy mn (fun _ => 0) 0 0 18, nI a, va_cpy (fun _ => 0) (fun _ => 0) 0 0 12, 0, va_cpy en (fun _ => 0) 0 0 24, nI c, va_cpy (fun _ => 0) (fun _ => 0) 0 0 24, 0, nI P, nI E, nI (P ^ E), nI W0, nI W1, 1)) (by unfold f_X6_image; rw [cff pe, ob_s]) ?_
  refine pb_i td_2 ?_
  dsimp only
  rw [if_pos rfl]
  refine pb_i (by unfold f_X6_after; rw [if_pos (by decide +kernel)]) ?_
  dsimp only
  rw [if_pos rfl]
  refine b761 _ _ _ _ _ _ _ _ _ _ _ _ _ _ _ _ _ _ _ _ _ _ ?_
  unfold wp_761
  obtain ⟨nw, n1, n2⟩ := st_ h6 mn (a := a) mk.1 (nI P) (nI E) (nI (P ^ E)) (nI W0) (nI W1)
  refine pb_i (u := nw) n1 ?_
  refine pb_i td_3 ?_
  refine lp_783 b783 mk.1 ?_ a 0 (fun _ => 0) (by omega) (fun i hi => by omega)
  intro mk2 hm2
  refine hk mn en _ _ _ _ nw mk2 P E a W0 W1 c hVA w1 hc (fun j hj => cy_ hj) (fun q hq => ?_) n2 hm2
  have e : q = 0 ∨ q = 1 ∨ q = 2 := by omega
  rcases e with rfl | rfl | rfl
  · exact v1
  · exact v2
  · exact v3
end PHASE2
