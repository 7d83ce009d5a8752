/-! a call out of a large world: the callee's cells by a mask -/
def va_pk : List Bool → va_W → va_W
  | true :: ms, x :: ws => x :: va_pk ms ws
  | false :: ms, _ :: ws => va_pk ms ws
  | [], _ => []
  | _ :: _, [] => []
def va_rs : List Bool → va_W → va_W
  | true :: ms, _ :: ws => va_rs ms ws
  | false :: ms, x :: ws => x :: va_rs ms ws
  | [], ws => ws
  | _ :: _, [] => []
def va_mx : List Bool → va_W → va_W → va_W
  | true :: ms, _ :: ws, y :: ys => y :: va_mx ms ws ys
  | true :: ms, _ :: ws, [] => va_mx ms ws []
  | false :: ms, x :: ws, ys => x :: va_mx ms ws ys
  | [], ws, _ => ws
  | _ :: _, [], _ => []
theorem mx_mem : ∀ (ms : List Bool) (ws ys : va_W) (q : Nat × va_E), q ∈ va_mx ms ws ys → q ∈ va_rs ms ws ∨ q ∈ ys
  | [], ws, _, q, h => by
    cases ws <;> exact Or.inl h
  | true :: ms, [], _, q, h => Or.inl h
  | false :: ms, [], _, q, h => Or.inl h
  | true :: ms, x :: ws, y :: ys, q, h => by
    rcases List.mem_cons.mp (show q ∈ y :: va_mx ms ws ys from h) with e | h
    · exact Or.inr (List.mem_cons.mpr (Or.inl e))
    · exact (mx_mem ms ws ys q h).imp id (fun z => List.mem_cons.mpr (Or.inr z))
  | true :: ms, x :: ws, [], q, h => mx_mem ms ws [] q h
  | false :: ms, x :: ws, ys, q, h => by
    rcases List.mem_cons.mp (show q ∈ x :: va_mx ms ws ys from h) with e | h
    · exact Or.inl (List.mem_cons.mpr (Or.inl e))
    · exact (mx_mem ms ws ys q h).imp (fun z => List.mem_cons.mpr (Or.inr z)) id
theorem pk_mem : ∀ (ms : List Bool) (ws : va_W) (q : Nat × va_E), q ∈ va_pk ms ws → q ∈ ws
  | [], ws, q, h => by
    cases ws <;> exact absurd h List.not_mem_nil
  | true :: ms, [], q, h => absurd h List.not_mem_nil
  | false :: ms, [], q, h => absurd h List.not_mem_nil
  | true :: ms, x :: ws, q, h => by
    rcases List.mem_cons.mp (show q ∈ x :: va_pk ms ws from h) with e | h
    · exact List.mem_cons.mpr (Or.inl e)
    · exact List.mem_cons.mpr (Or.inr (pk_mem ms ws q h))
  | false :: ms, x :: ws, q, h => List.mem_cons.mpr (Or.inr (pk_mem ms ws q h))
theorem rs_mem : ∀ (ms : List Bool) (ws : va_W) (q : Nat × va_E), q ∈ va_rs ms ws → q ∈ ws
  | [], ws, q, h => by
    cases ws <;> exact h
  | true :: ms, [], q, h => absurd h List.not_mem_nil
  | false :: ms, [], q, h => absurd h List.not_mem_nil
  | false :: ms, x :: ws, q, h => by
    rcases List.mem_cons.mp (show q ∈ x :: va_rs ms ws from h) with e | h
    · exact List.mem_cons.mpr (Or.inl e)
    · exact List.mem_cons.mpr (Or.inr (rs_mem ms ws q h))
  | true :: ms, x :: ws, q, h => List.mem_cons.mpr (Or.inr (rs_mem ms ws q h))
def va_ap : va_W → Prop
  | [] => True
  | x :: ws => (∀ c, c ∈ ws → x.1 ≠ c.1) ∧ va_ap ws
theorem D_ap : ∀ (ws : va_W), (∀ (i j : Nat) (p q : Nat × va_E), ws[i]? = some p → ws[j]? = some q → p.1 = q.1 → i = j) → va_ap ws
  | [], _ => trivial
  | x :: ws, h => ⟨fun c hc e => by
      obtain ⟨j, hj⟩ := List.mem_iff_getElem?.mp hc
      have := h 0 (j + 1) x c rfl hj e
      omega, D_ap ws (fun i j p q hi hj e => by
      have := h (i + 1) (j + 1) p q hi hj e
      omega)⟩
theorem ap_D : ∀ (ws : va_W), va_ap ws → ∀ (i j : Nat) (p q : Nat × va_E), ws[i]? = some p → ws[j]? = some q → p.1 = q.1 → i = j
  | [], _, i, j, p, q, hi, _, _ => by simp at hi
  | x :: ws, h, 0, 0, p, q, _, _, _ => rfl
  | x :: ws, h, 0, j + 1, p, q, hi, hj, e => by
    cases hi
    exact absurd e (h.1 q (List.mem_iff_getElem?.mpr ⟨j, hj⟩))
  | x :: ws, h, i + 1, 0, p, q, hi, hj, e => by
    cases hj
    exact absurd e.symm (h.1 p (List.mem_iff_getElem?.mpr ⟨i, hi⟩))
  | x :: ws, h, i + 1, j + 1, p, q, hi, hj, e => by rw [ap_D ws h.2 i j p q hi hj e]
theorem pk_ap : ∀ (ms : List Bool) (ws : va_W), va_ap ws → va_ap (va_pk ms ws)
  | [], ws, h => by
    cases ws <;> exact trivial
  | true :: ms, [], h => trivial
  | false :: ms, [], h => trivial
  | true :: ms, x :: ws, h => ⟨fun c hc => h.1 c (pk_mem ms ws c hc), pk_ap ms ws h.2⟩
  | false :: ms, x :: ws, h => pk_ap ms ws h.2
theorem ap_ne : ∀ (ms : List Bool) (ws : va_W), va_ap ws → ∀ (q c : Nat × va_E), q ∈ va_rs ms ws → c ∈ va_pk ms ws → q.1 ≠ c.1
  | [], ws, _, q, c, _, hc => by
    cases ws <;> exact absurd hc List.not_mem_nil
  | true :: ms, [], _, q, c, hq, _ => absurd hq List.not_mem_nil
  | false :: ms, [], _, q, c, hq, _ => absurd hq List.not_mem_nil
  | true :: ms, x :: ws, h, q, c, hq, hc => by
    have hq' : q ∈ va_rs ms ws := hq
    rcases List.mem_cons.mp (show c ∈ x :: va_pk ms ws from hc) with e | hc
    · rw [e]
      exact fun z => h.1 q (rs_mem ms ws q hq') z.symm
    · exact ap_ne ms ws h.2 q c hq' hc
  | false :: ms, x :: ws, h, q, c, hq, hc => by
    have hc' : c ∈ va_pk ms ws := hc
    rcases List.mem_cons.mp (show q ∈ x :: va_rs ms ws from hq) with e | hq
    · rw [e]
      exact h.1 c (pk_mem ms ws c hc')
    · exact ap_ne ms ws h.2 q c hq hc'
section XMX
variable {p : Program} {l : Launch} {e : Env} {R : Room} {s : State} {m : MethodId} {args : Array Value} {below : List Frame} {meth : Method} {c : Code} {H H0 : Heap} {locs : List Loc} {cells slots : Nat} {Q : State → Prop}
variable {y : MethodName} {bytes cc : ByteArray} {maxL nL n index : Nat} {ret : Option FieldType} {ws : List Cond} {rm : Room} {Ts : List Cond} {own C host : String} {b : Nat} {As rest st0 : List Value} {D : va_G} {cI cJ : ClassId} {wc w1 W0 W1 : va_W} {o : Option Value} {pc : Nat} {ls : Array Slot} {ci : Nat} {fs : List Value} {q : vw_C} {A0 : Nat → Prop}
theorem mu_backX {a : Array Value} (hr : va_Run p l e R s m args below meth c H locs cells slots 0 0 (F0 m pc ls st0) rest (qM o D w1 (va_A wc H.size) a) (va_A wc H.size))
    (hP : va_P D vwCl W0 H) (hD : va_D A0 W0) (hS : va_S A0 H0 H locs) (hA : ∀ q, H0.size ≤ q → A0 q)
    (ms : List Bool) (hC : va_pk ms W0 = wc) (hW : va_mx ms W0 w1 = W1)
    (kk : ∀ (H1 : Heap) (locs1 : List Loc), va_P D vwCl W1 H1 → va_S A0 H0 H1 locs1 → W p l e R s m args below meth c H1 locs1 cells slots Q (F0 m (pc + 3) ls (o.toList ++ rest))) : W p l e R s m args below meth c H locs cells slots Q (F0 m pc ls st0) := by
  intro T hT X
  obtain ⟨v, st₀, t, T', L, h0, X', hL, e1, e2, ⟨hv, hp, hz, hk⟩, st⟩ := hr T hT X
  cases hv
  rw [h0] at hz hk
  have ap := D_ap W0 hD.1
  have inW : ∀ q, q ∈ wc → ∃ i : Nat, W0[i]? = some q := fun q hq => by
    rw [← hC] at hq
    exact List.mem_iff_getElem?.mp (pk_mem ms W0 q hq)
  have hF : ∀ q, va_A wc H.size q → A0 q := by
    intro q h
    rcases h with ⟨k, e, h⟩ | h
    · obtain ⟨i, hi⟩ := inW (q, e) (List.mem_of_getElem? h)
      exact hD.2 i (q, e) hi
    · exact hA q (Nat.le_trans hS.1 h)
  have hP1 : va_P D vwCl W1 t.heap := by
    intro k q hk1
    have hm : q ∈ va_mx ms W0 w1 := by
      rw [hW]
      exact List.mem_of_getElem? hk1
    rcases mx_mem ms W0 w1 q hm with h | h
    · obtain ⟨i, hi⟩ := List.mem_iff_getElem?.mp (rs_mem ms W0 q h)
      have at0 := hP i q hi
      refine at0.kept (hk q.1 at0.lt ?_)
      intro z
      rcases z with ⟨k', e', h'⟩ | h'
      · have hc : (q.1, e') ∈ va_pk ms W0 := by
          rw [hC]
          exact List.mem_of_getElem? h'
        exact ap_ne ms W0 ap q (q.1, e') h hc rfl
      · exact absurd at0.lt (Nat.not_lt.mpr h')
    · obtain ⟨i, hi⟩ := List.mem_iff_getElem?.mp h
      exact hp i q hi
  obtain ⟨t2, a1, b1⟩ := kk T'.heap (locs ++ L) (by rw [e1]; exact hP1)
    ⟨Nat.le_trans hS.1 (by rw [e1]; exact hz), fun q h1 h2 => by rw [e1, hk q (Nat.lt_of_lt_of_le h1 hS.1) (fun z => h2 (hF q z))]; exact hS.2.1 q h1 h2, fun q hq => by
      rcases List.mem_append.mp hq with h | h
      · exact hS.2.2 q h
      · exact hF _ (hL q h)⟩ T' rfl X'
  exact ⟨t2, st t2 a1, b1⟩
theorem pk_P (ms : List Bool) (hC : va_pk ms W0 = wc) (hP : va_P D vwCl W0 H) (hD : va_D A0 W0) : va_P D vwCl wc H ∧ va_D (fun _ => True) wc := by
  subst hC
  refine ⟨fun k q hk => ?_, ap_D _ (pk_ap ms W0 (D_ap W0 hD.1)), fun _ _ _ => trivial⟩
  obtain ⟨i, hi⟩ := List.mem_iff_getElem?.mp (pk_mem ms W0 q (List.mem_of_getElem? hk))
  exact hP i q hi
theorem mu_X (S : CallFix p m c cc nL s args Ts own) (hM : Met l y ws rm (va_Pc (.ref b :: As) (pM D cI cJ wc H.size)) (qM o D w1 (va_A wc H.size)) 0 0 (va_A wc H.size)) (cw : CallW R s args own C index y bytes maxL ret ws rm 0 0 n)
    (hE : xE D cI cJ s) (k0 : Nat) (he : W0[k0]? = some (b, .inr (ci, fs))) (hcl : vwCl[ci]? = some q) (hCq : q.1 = C)
    (hn : As.length = n) (hsize : ls.size = nL) (hstack : st0 = As.reverse ++ .ref b :: rest) (hWr : (rest.map fun v => v.category).sum ≤ 8) (hdg : decode cc pc = .ok (.invokevirtual index, 3)) (hf : cells ≤ R.cells ∧ slots ≤ R.slots)
    (hP : va_P D vwCl W0 H) (hD : va_D A0 W0) (hS : va_S A0 H0 H locs) (hA : ∀ q, H0.size ≤ q → A0 q)
    (ms : List Bool) (hC : va_pk ms W0 = wc) (hW : va_mx ms W0 w1 = W1)
    (kk : ∀ (H1 : Heap) (locs1 : List Loc), va_P D vwCl W1 H1 → va_S A0 H0 H1 locs1 → W p l e R s m args below meth c H1 locs1 cells slots Q (F0 m (pc + 3) ls (o.toList ++ rest))) : W p l e R s m args below meth c H locs cells slots Q (F0 m pc ls st0) := by
  subst hCq
  have hc := pk_P ms hC hP hD
  exact mu_backX (va_runV S hM cw ⟨pM.blind, va_recv hE.1 hP hcl he, fun U hU hW => ⟨rfl, by rw [hU], by rw [hU]; exact hc.1, xE.warm hW hE, hc.2⟩⟩ rfl hn hsize hstack (by show 2 * 0 + _ ≤ 8; omega) hdg hf) hP hD hS hA ms hC hW kk
end XMX
