/-! p40: the third part of the law: the events done; as in thought; the image laid back -/
theorem pr_y {P P' E : Nat} (h : PE P' E) {M : Int32} : f_X6_prime (nI P') (nI P) (nI E) M = some (nI P, nI P', nI E, nI (P' ^ E)) := by
  unfold f_X6_prime
  have q : nI P' = 2 ∨ nI P' = 3 ∨ nI P' = 5 ∨ nI P' = 7 := by
    rcases h.1 with rfl | rfl | rfl | rfl
    · exact Or.inl rfl
    · exact Or.inr (Or.inl rfl)
    · exact Or.inr (Or.inr (Or.inl rfl))
    · exact Or.inr (Or.inr (Or.inr rfl))
  rw [if_neg (fun z => q.elim z.1 (fun q => q.elim z.2.1 (fun q => q.elim z.2.2.1 z.2.2.2)))]
  unfold f_X3_become
  rw [pw_0 h]
  rfl
theorem po_y {P E n : Nat} (h : PE P n) {M : Int32} : f_X6_power (nI n) (nI P) (nI E) M = some (nI E, nI P, nI n, nI (P ^ n)) := by
  unfold f_X6_power
  rw [if_neg (show ¬ f_X6_isWithin (nI n) 1 4 = 0 from iw_y (a := 1) (b := 4) h.2.1 h.2.2 (by omega))]
  unfold f_X3_become
  rw [pw_0 h]
  rfl
theorem wi_y {x y : Nat} (hx : x ≤ 127) (hy : y ≤ 127) {wr wp : Int32} : f_X6_window (nI x) (nI y) wr wp = some (1000 * wr + wp, nI x, nI y) := by
  unfold f_X6_window
  rw [if_neg (fun z => z.elim (iw_y (a := 0) (b := 127) (by omega) hx (by omega)) (iw_y (a := 0) (b := 127) (by omega) hy (by omega)))]
theorem ny_ {P E : Nat} (h : PE P E) : (if nI P = (2 : Int32) then (3 : Int32) else if nI P = (7 : Int32) then (2 : Int32) else nI P + (2 : Int32)) = nI (nxp P) := by
  rcases h.1 with rfl | rfl | rfl | rfl
  · rfl
  · rfl
  · rfl
  · rfl
theorem mi_ {W n : Nat} (hW : W ≤ 127) (hn : n ≤ 99) : (if nI W + nI n < (127 : Int32) then nI W + nI n else (127 : Int32)) = nI (min 127 (W + n)) := by
  rw [nI_add, zl_127]
  by_cases c : W + n < 127
  · rw [if_pos (nI_lt c (by omega)), Nat.min_eq_right (by omega)]
  · rw [if_neg (nI_nlt (by omega) (by omega)), Nat.min_eq_left (by omega)]
theorem td_6 {h mn : Nat → Int32} {ms p e M wr wp v : Int32} (q : f_X3_markedInWindow h mn ms p M wr wp = some v) : f_X6_told 6 h mn ms p e M wr wp = some v := by
  unfold f_X6_told
  rw [if_neg (by decide), if_neg (by decide), if_neg (by decide), if_neg (by decide), if_neg (by decide), if_neg (by decide), if_pos rfl, q, ob_s]
def RM (A : AB) (mk : Nat → Int32) : Prop := ∀ j, j < A.2.2.1 → mk (2 * j) = A.2.2.2.2.1 j ∧ mk (2 * j + 1) = A.2.2.2.2.2 j
section PHASE3
variable {K829 : KT_829} {K896 : KT_896} {K989 : KT_989} {K1013 : KT_1013} {K1046 : KT_1046} {K1055 : KT_1055} {K1097 : KT_1097} {K1178 : KT_1178} {L : Nat} {xs : Nat → Int32}
variable {mn en kmn ken kbk th nw : Nat → Int32} {ms es kms kes kbs kp ke kwr kwp hi v9 p e M wr wp : Int32}
theorem lp_1013 (b1013 : BL_1013 K829 K1013 L xs) {k0 m i : Nat} {mk0 : Nat → Int32} (hm : m ≤ 5) (hi8 : i ≤ 100)
    (hk : ∀ mk, (∀ j, j < k0 → mk j = mk0 j) → (∀ j, k0 ≤ j → j < 2 * m → mk j = mk0 (j + 2)) → K829 mn ms p e M wr wp en es kmn kms ken kes kbk kbs kp ke kwr kwp hi th nw mk v9 (nI m) (nI (i + 1))) :
    ∀ (d k : Nat) (mk : Nat → Int32), k + d = 2 * m → k0 ≤ k → (∀ j, k0 ≤ j → j < k → mk j = mk0 (j + 2)) → (∀ j, (j < k0 ∨ k ≤ j) → mk j = mk0 j) → K1013 mn ms p e M wr wp en es kmn kms ken kes kbk kbs kp ke kwr kwp hi th nw mk v9 (nI m) (nI i) (nI k) := by
  intro d
  induction d with
  | zero =>
    intro k mk hd h0 q1 q2
    refine b1013 _ _ _ _ _ _ _ _ _ _ _ _ _ _ _ _ _ _ _ _ _ _ _ _ _ _ _ ?_
    unfold wp_1013
    rw [zl_2, pk_mul, if_pos (le_t (by omega) (by omega)), nI_1]
    exact hk mk (fun j hj => q2 j (Or.inl hj)) (fun j h1 h2 => q1 j h1 (by omega))
  | succ d ih =>
    intro k mk hd h0 q1 q2
    refine b1013 _ _ _ _ _ _ _ _ _ _ _ _ _ _ _ _ _ _ _ _ _ _ _ _ _ _ _ ?_
    unfold wp_1013
    rw [zl_2, pk_mul, if_neg (le_f (by omega) (by omega))]
    refine pb_i (u := mk (k + 2)) (by rw [nI_add]; exact rd_n (by omega) (by omega)) ?_
    refine pb_i (u := upd mk k (mk (k + 2))) (wr_n (by omega) (by omega)) ?_
    rw [nI_1]
    refine ih (k + 1) _ (by omega) (by omega) (fun j h1 h2 => ?_) (fun j hj => ?_)
    · by_cases e1 : j = k
      · subst e1
        rw [pk_us]
        exact q2 (j + 2) (Or.inr (by omega))
      · rw [pk_un e1]
        exact q1 j h1 (by omega)
    · rw [pk_un (by omega)]
      exact q2 j (by omega)
theorem lp_829 (hL : L ≤ 260) (b829 : BL_829 K829 K896 K1046 L xs) (b896 : BL_896 K896 K989 L xs) (b989 : BL_989 K829 K989 K1013 L xs) (b1013 : BL_1013 K829 K1013 L xs) {A : AB} {c W1 : Nat} (hV : VAB A) (hc : c ≤ 8) (h1 : W1 ≤ 127)
    (hk : ∀ mk, RM (ABs (ek xs L) (ev xs L) A c) mk → K1046 mn ms (nI (ABs (ek xs L) (ev xs L) A c).1) (nI (ABs (ek xs L) (ev xs L) A c).2.1) (nI ((ABs (ek xs L) (ev xs L) A c).1 ^ (ABs (ek xs L) (ev xs L) A c).2.1)) (nI (ABs (ek xs L) (ev xs L) A c).2.2.2.1) (nI W1) en es kmn kms ken kes kbk kbs kp ke kwr kwp hi th nw mk (nI c) (nI (ABs (ek xs L) (ev xs L) A c).2.2.1)) :
    ∀ (d i : Nat) (mk : Nat → Int32), i + d = c → RM (ABs (ek xs L) (ev xs L) A i) mk → K829 mn ms (nI (ABs (ek xs L) (ev xs L) A i).1) (nI (ABs (ek xs L) (ev xs L) A i).2.1) (nI ((ABs (ek xs L) (ev xs L) A i).1 ^ (ABs (ek xs L) (ev xs L) A i).2.1)) (nI (ABs (ek xs L) (ev xs L) A i).2.2.2.1) (nI W1) en es kmn kms ken kes kbk kbs kp ke kwr kwp hi th nw mk (nI c) (nI (ABs (ek xs L) (ev xs L) A i).2.2.1) (nI i) := by
  intro d
  induction d with
  | zero =>
    intro i mk hd q
    have e1 : i = c := by omega
    subst e1
    refine b829 _ _ _ _ _ _ _ _ _ _ _ _ _ _ _ _ _ _ _ _ _ _ _ _ _ _ ?_
    unfold wp_829
    rw [if_pos (le_t (Nat.le_refl _) (by omega))]
    exact hk mk q
  | succ d ih =>
    intro i mk hd q
    have hE := ev_E (xs := xs) (L := L) i
    have hVi := abs_v (c := c) hV (fun i _ => ev_E (xs := xs) (L := L) i) i (by omega)
    have ihn := ih (i + 1)
    have es1 : ABs (ek xs L) (ev xs L) A (i + 1) = stp (ek xs L i) (ev xs L i) (ABs (ek xs L) (ev xs L) A i) := rfl
    rw [es1] at ihn
    generalize hB : ABs (ek xs L) (ev xs L) A i = B at q hVi ihn ⊢
    have hV1 := hVi.1
    have hV2 := hVi.2.1
    have hV3 := hVi.2.2.1
    have q3 : qv xs L i &&& 3 = nI (ek xs L i) := (cln (an_3 (qv xs L i)) (by omega)).1
    have g3 : ek xs L i < 4 := (cln (an_3 (qv xs L i)) (by omega)).2
    have w3 : (qv xs L i >>> ((2 : Int32) &&& 31)) &&& 3 = nI (e3 xs L i) := (cln (an_3 (qv xs L i >>> ((2 : Int32) &&& 31))) (by omega)).1
    have w63 : (qv xs L i >>> ((2 : Int32) &&& 31)) &&& 63 = nI (e63 xs L i) := (cln (an_63 (qv xs L i >>> ((2 : Int32) &&& 31))) (by omega)).1
    have h63 : e63 xs L i < 64 := (cln (an_63 (qv xs L i >>> ((2 : Int32) &&& 31))) (by omega)).2
    -- behind the call that may be
    have go : ∀ (P' E' W' : Nat) (n : Nat) (r : Int32), ¬ ek xs L i = 3 → stp (ek xs L i) (ev xs L i) B = (P', E', B.2.2.1, W', B.2.2.2.2) → K989 mn ms (nI P') (nI E') (nI (P' ^ E')) (nI W') (nI W1) en es kmn kms ken kes kbk kbs kp ke kwr kwp hi th nw mk (nI c) (nI B.2.2.1) (nI i) (nI (ek xs L i)) (nI n) r := by
      intro P' E' W' n r hne est
      refine b989 _ _ _ _ _ _ _ _ _ _ _ _ _ _ _ _ _ _ _ _ _ _ _ _ _ _ _ _ _ ?_
      unfold wp_989
      rw [if_neg (fun z => eq_f (b := 3) hne (by omega) (by omega) z.1), nI_1]
      rw [est] at ihn
      exact ihn mk (by omega) q
    refine b829 _ _ _ _ _ _ _ _ _ _ _ _ _ _ _ _ _ _ _ _ _ _ _ _ _ _ ?_
    unfold wp_829
    rw [if_neg (le_f (by omega) (by omega))]
    refine pb_i (u := qv xs L i) (by rw [show (122 : Int32) = nI 122 from rfl, nI_add]; exact qv_e hL (by omega)) ?_
    rw [q3, w3, w63]
    by_cases c1 : ek xs L i = 1
    · have e1 : ev xs L i = 1 + e3 xs L i := by
        unfold ev
        rw [if_neg (by omega), if_pos c1]
      rw [if_pos (show nI (ek xs L i) = 1 by rw [c1]; rfl), show (1 : Int32) + nI (e3 xs L i) = nI (1 + e3 xs L i) from nI_add 1 _, ← e1]
      refine b896 _ _ _ _ _ _ _ _ _ _ _ _ _ _ _ _ _ _ _ _ _ _ _ _ _ _ _ _ ?_
      unfold wp_896
      refine pb_i td_0 ?_
      rw [if_neg (show ¬ nI (ek xs L i) = 0 from eq_f (b := 0) (by omega) (by omega) (by omega)), if_pos (show nI (ek xs L i) = 1 by rw [c1]; rfl)]
      have pn : PE B.1 (ev xs L i) := by
        rcases hE with ⟨a, _⟩ | ⟨_, a, b⟩ | ⟨a, _⟩ | ⟨a, _⟩
        · omega
        · exact ⟨hV1.1, a, b⟩
        · omega
        · omega
      refine pb_i (po_y pn) ?_
      exact go _ _ _ _ _ (by omega) (by unfold stp; rw [if_neg (by omega), if_pos c1])
    · rw [if_neg (show ¬ nI (ek xs L i) = 1 from eq_f (b := 1) c1 (by omega) (by omega))]
      by_cases c2 : ek xs L i = 2
      · have e1 : ev xs L i = e63 xs L i := by
          unfold ev
          rw [if_neg (by omega), if_neg c1, if_pos c2]
        rw [if_pos (show nI (ek xs L i) = 2 by rw [c2]; rfl), ← e1]
        refine b896 _ _ _ _ _ _ _ _ _ _ _ _ _ _ _ _ _ _ _ _ _ _ _ _ _ _ _ _ ?_
        unfold wp_896
        refine pb_i td_0 ?_
        rw [if_neg (show ¬ nI (ek xs L i) = 0 from eq_f (b := 0) (by omega) (by omega) (by omega)), if_neg (show ¬ nI (ek xs L i) = 1 from eq_f (b := 1) c1 (by omega) (by omega)), if_pos (show nI (ek xs L i) = 2 by rw [c2]; rfl)]
        refine pb_i td_4 ?_
        refine pb_i td_5 ?_
        rw [mi_ hV3 (by omega)]
        refine pb_i (wi_y (Nat.min_le_left _ _) h1) ?_
        exact go _ _ _ _ _ (by omega) (by unfold stp; rw [if_neg (by omega), if_neg c1, if_pos c2])
      · rw [if_neg (show ¬ nI (ek xs L i) = 2 from eq_f (b := 2) c2 (by omega) (by omega))]
        refine pb_i (u := nI (e63 xs L i % 6)) (by rw [zl_6, md_n (by omega) (by omega) (by omega)]) ?_
        refine b896 _ _ _ _ _ _ _ _ _ _ _ _ _ _ _ _ _ _ _ _ _ _ _ _ _ _ _ _ ?_
        unfold wp_896
        refine pb_i td_0 ?_
        by_cases c0 : ek xs L i = 0
        · rw [if_pos (show nI (ek xs L i) = 0 by rw [c0]; rfl), ny_ hV1, qn_s]
          refine pb_i (pr_y (nxp_v hV1).1) ?_
          exact go _ _ _ _ _ (by omega) (by unfold stp; rw [if_pos c0])
        · have c3 : ek xs L i = 3 := by omega
          have e1 : ev xs L i = e63 xs L i % 6 := by
            unfold ev
            rw [if_neg c0, if_neg c1, if_neg c2]
          rw [if_neg (show ¬ nI (ek xs L i) = 0 from eq_f (b := 0) c0 (by omega) (by omega)), if_neg (show ¬ nI (ek xs L i) = 1 from eq_f (b := 1) c1 (by omega) (by omega)), if_neg (show ¬ nI (ek xs L i) = 2 from eq_f (b := 2) c2 (by omega) (by omega)), ← e1]
          have hn6 : ev xs L i ≤ 5 := by
            rw [e1]
            have := Nat.mod_lt (e63 xs L i) (show 0 < 6 by omega)
            omega
          refine b989 _ _ _ _ _ _ _ _ _ _ _ _ _ _ _ _ _ _ _ _ _ _ _ _ _ _ _ _ _ ?_
          unfold wp_989
          by_cases cn : ev xs L i < B.2.2.1
          · have est : stp (ek xs L i) (ev xs L i) B = (B.1, B.2.1, B.2.2.1 - 1, B.2.2.2.1, (fun j => if j < ev xs L i then B.2.2.2.2.1 j else B.2.2.2.2.1 (j + 1)), fun j => if j < ev xs L i then B.2.2.2.2.2 j else B.2.2.2.2.2 (j + 1)) := by
              unfold stp
              rw [if_neg c0, if_neg c1, if_neg c2, if_pos cn]
            rw [if_pos ⟨by rw [c3]; rfl, le_f cn (by omega)⟩, zl_2, pk_mul, show nI B.2.2.1 + (-1) = nI (B.2.2.1 - 1) by
              rw [show B.2.2.1 = (B.2.2.1 - 1) + 1 by omega]
              exact pk_m1 _]
            rw [est] at ihn
            refine lp_1013 b1013 (k0 := 2 * ev xs L i) (m := B.2.2.1 - 1) (mk0 := mk) (by omega) (by omega) ?_ (2 * (B.2.2.1 - 1) - 2 * ev xs L i) (2 * ev xs L i) mk (by omega) (Nat.le_refl _) (fun j a b => by omega) (fun _ _ => rfl)
            intro mk2 r1 r2
            refine ihn mk2 (by omega) (fun j hj => ?_)
            have hj : j < B.2.2.1 - 1 := hj
            dsimp only
            by_cases cj : j < ev xs L i
            · rw [if_pos cj, if_pos cj, r1 (2 * j) (by omega), r1 (2 * j + 1) (by omega)]
              exact q j (by omega)
            · rw [if_neg cj, if_neg cj, r2 (2 * j) (by omega) (by omega), r2 (2 * j + 1) (by omega) (by omega), show 2 * j + 2 = 2 * (j + 1) by omega, show 2 * j + 1 + 2 = 2 * (j + 1) + 1 by omega]
              exact q (j + 1) (by omega)
          · have est : stp (ek xs L i) (ev xs L i) B = B := by
              unfold stp
              rw [if_neg c0, if_neg c1, if_neg c2, if_neg cn]
            rw [if_neg (fun z => z.2 (le_t (by omega) (by omega))), nI_1]
            rw [est] at ihn
            exact ihn mk (by omega) q
theorem lp_1055 (b1055 : BL_1055 K1055 K1097 L xs) {A : AB} {mk : Nat → Int32} {v14 : Int32} (hV : VAB A) (hR : RM A mk)
    (hk : ∀ mn, ROW A mn → MKS mn A.2.2.1 → K1097 mn (nI A.2.2.1) p e M wr wp en es kmn kms ken kes kbk kbs kp ke kwr kwp hi th nw v9 v14) :
    ∀ (d k : Nat) (mn : Nat → Int32), k + d = A.2.2.1 → (∀ j, j < k → mn (3 * j) = A.2.2.2.2.1 j ∧ mn (3 * j + 1) = A.2.2.2.2.2 j) → MKS mn k → K1055 mn (nI k) p e M wr wp en es kmn kms ken kes kbk kbs kp ke kwr kwp hi th nw mk v9 (nI A.2.2.1) v14 (nI k) := by
  have h6 := hV.2.1
  intro d
  induction d with
  | zero =>
    intro k mn hd q1 q2
    have e1 : k = A.2.2.1 := by omega
    refine b1055 _ _ _ _ _ _ _ _ _ _ _ _ _ _ _ _ _ _ _ _ _ _ _ _ _ _ _ ?_
    unfold wp_1055
    rw [if_pos (le_t (by omega) (by omega)), e1]
    rw [e1] at q1 q2
    exact hk mn q1 q2
  | succ d ih =>
    intro k mn hd q1 q2
    refine b1055 _ _ _ _ _ _ _ _ _ _ _ _ _ _ _ _ _ _ _ _ _ _ _ _ _ _ _ ?_
    unfold wp_1055
    rw [if_neg (le_f (by omega) (by omega))]
    obtain ⟨kk, vv, a1, a2, a3, a4⟩ := hV.2.2.2 k (by omega)
    have r0 := hR k (by omega)
    refine pb_i (u := nI kk) (by rw [zl_2, pk_mul, rd_n (by omega) (by omega), r0.1, a3]) ?_
    refine pb_i (u := nI vv) (by rw [zl_2, pk_mul, nI_1, rd_n (by omega) (by omega), r0.2, a4]) ?_
    refine pb_i (ma_6 q2 a1 a2 (by omega)) ?_
    dsimp only
    rw [nI_1, if_pos rfl]
    refine ih (k + 1) _ (by omega) (fun j hj => ?_) (q2.u a1 a2 (by omega))
    by_cases e1 : j = k
    · subst e1
      rw [u3_0, u3_1]
      exact ⟨a3.symm, a4.symm⟩
    · rw [u3_n (by omega), u3_n (by omega)]
      exact q1 j (by omega)
theorem phase3 (hL : L ≤ 260) (b829 : BL_829 K829 K896 K1046 L xs) (b896 : BL_896 K896 K989 L xs) (b989 : BL_989 K829 K989 K1013 L xs) (b1013 : BL_1013 K829 K1013 L xs) (b1046 : BL_1046 K1046 K1055 L xs) (b1055 : BL_1055 K1055 K1097 L xs) (b1097 : BL_1097 K1097 K1178 L xs)
    (hk : ∀ (mn en bk nw : Nat → Int32) (P E a W0 W1 : Nat) (es : Int32), PE P E → MKS mn a → W0 ≤ 127 → W1 ≤ 127 → STV mn a (nI P) (nI E) (nI (P ^ E)) (nI a) (nI W0) (nI W1) nw → K1178 mn (nI a) (nI P) (nI E) (nI (P ^ E)) (nI W0) (nI W1) en es bk 0 nw)
    (mn en kmn ken kbk th nw mk : Nat → Int32) (P E a W0 W1 c : Nat) (hVA : VAB (A0 P E a W0 mn)) (h1 : W1 ≤ 127) (hc : c ≤ 8) (hkm : ∀ j, j < 18 → kmn j = mn j) (hth : ∀ q, q ≤ 2 → th q = AV h6 (ABs (ek xs L) (ev xs L) (A0 P E a W0 mn) c) W1 q) (hnw : STV mn a (nI P) (nI E) (nI (P ^ E)) (nI a) (nI W0) (nI W1) nw) (hmk : ∀ i, i < a → mk (2 * i) = mn (3 * i) ∧ mk (2 * i + 1) = mn (3 * i + 1)) :
    K829 mn (nI a) (nI P) (nI E) (nI (P ^ E)) (nI W0) (nI W1) en (nI c) kmn (nI a) ken (nI c) kbk 0 (nI P) (nI E) (nI W0) (nI W1) 1 th nw mk (nI c) (nI a) 0 := by
  have ha6 : a ≤ 6 := hVA.2.1
  refine lp_829 hL b829 b896 b989 b1013 (A := A0 P E a W0 mn) hVA hc h1 ?_ c 0 mk (by omega) (fun j hj => hmk j hj)
  intro mk2 hR
  have hVc := abs_v (c := c) hVA (fun i _ => ev_E (xs := xs) (L := L) i) c (Nat.le_refl _)
  generalize ABs (ek xs L) (ev xs L) (A0 P E a W0 mn) c = B at hR hVc hth ⊢
  refine b1046 _ _ _ _ _ _ _ _ _ _ _ _ _ _ _ _ _ _ _ _ _ _ _ _ _ ?_
  unfold wp_1046
  refine pb_i cl_v ?_
  dsimp only
  refine lp_1055 b1055 (A := B) hVc hR ?_ B.2.2.1 0 mn (by omega) (fun j hj => by omega) ⟨by omega, fun i hi => by omega⟩
  intro mn2 r1 r2
  refine b1097 _ _ _ _ _ _ _ _ _ _ _ _ _ _ _ _ _ _ _ _ _ _ _ _ ?_
  unfold wp_1097
  intro ksn kss rl
  refine pb_i (td_6 (mw_a h6_T hVc r1 h1)) ?_
  refine pb_i (u := th 0) (rd_n (j := 0) (by omega) (by omega)) ?_
  rw [if_pos (hth 0 (by omega)).symm]
  refine pb_i td_2 ?_
  refine pb_i (u := th 1) (rd_n (j := 1) (by omega) (by omega)) ?_
  rw [if_pos (show nI (B.1 ^ B.2.1) = th 1 from (hth 1 (by omega)).symm)]
  refine pb_i td_3 ?_
  refine pb_i (u := th 2) (rd_n (j := 2) (by omega) (by omega)) ?_
  rw [if_pos (show nI B.2.2.1 = th 2 from (hth 2 (by omega)).symm)]
  have hrow : ∀ i, i < a → va_cpy kmn mn2 0 0 18 (3 * i) = mn (3 * i) ∧ va_cpy kmn mn2 0 0 18 (3 * i + 1) = mn (3 * i + 1) := fun i hi => by
    rw [cy_ (by omega), cy_ (by omega), hkm _ (by omega), hkm _ (by omega)]
    exact ⟨rfl, rfl⟩
  refine pb_i (u := (nI (P ^ E), va_cpy kmn mn2 0 0 18, nI a, va_cpy ksn (fun _ => 0) 0 0 12, kss, va_cpy ken en 0 0 24, nI c, va_cpy kbk (fun _ => 0) 0 0 24, 0, nI P, nI E, nI (P ^ E), nI W0, nI W1)) (by
    unfold f_X6_undo
    rw [if_neg (by decide), cff (show PE P E from hVA.1), ob_s]) ?_
  refine pb_i (u := nw 2) (rd_n (j := 2) (by omega) (by omega)) ?_
  dsimp only
  rw [if_pos hnw.2.2.1.symm]
  obtain ⟨r, s1, s2⟩ := st_ h6 (va_cpy kmn mn2 0 0 18) (a := a) ha6 (nI P) (nI E) (nI (P ^ E)) (nI W0) (nI W1)
  refine pb_i (u := r) s1 ?_
  refine pb_i (sa_ (fun j _ => (hnw.u s2 hrow j).symm)) ?_
  rw [if_neg (show ¬ (1 : Int32) = 0 by decide)]
  refine pb_i (u := nI c) (by
    unfold f_X6_count
    rw [if_neg (by decide), if_pos rfl]) ?_
  rw [if_pos rfl]
  refine pb_i (u := nw 3) (rd_n (j := 3) (by omega) (by omega)) ?_
  rw [if_pos hnw.2.2.2.1.symm]
  refine hk _ _ _ nw P E a W0 W1 _ hVA.1 ⟨ha6, fun i hi => ?_⟩ hVA.2.2.1 h1 ?_
  · obtain ⟨k, v, b1, b2, b3, b4⟩ := hVA.2.2.2 i hi
    rw [(hrow i hi).1, (hrow i hi).2]
    exact ⟨k, v, b1, b2, b3, b4⟩
  · obtain ⟨y0, y1, y2, y3, y4, y5, y6, y7⟩ := hnw
    refine ⟨y0, y1, y2, y3, y4, y5, fun i hi => ?_, y7⟩
    rw [(hrow i hi).1, (hrow i hi).2]
    exact y6 i hi
end PHASE3
