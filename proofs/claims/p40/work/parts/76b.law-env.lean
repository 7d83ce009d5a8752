/-! the law's static methods: what they start from, how the law goes on -/
theorem va_XltL {b L : Nat} {xs : Nat → Int32} {U : State} {H : Heap} (h : va_X b L xs U H) : b < H.size := by
  obtain ⟨scr, h1, _⟩ := h
  exact (Array.getElem?_eq_some_iff.mp h1).1
theorem va_X_at {b L : Nat} {xs : Nat → Int32} {s : State} {A : Nat → Prop} {H0 H : Heap} {locs : List Loc} (hX : va_X b L xs s H0) (hbl : b < H0.size) (hbA : ¬ A b) (hS : va_S A H0 H locs) : va_X b L xs s H := by
  obtain ⟨scr, h1, h2⟩ := hX
  exact ⟨scr, by rw [hS.2.1 b hbl hbA]; exact h1, h2⟩
def pXc (b L : Nat) (xs : Nat → Int32) (D : va_G) (cI cJ : ClassId) : State → Prop := fun U => xE D cI cJ U ∧ va_X b L xs U U.heap
theorem pXc.blind {b L : Nat} {xs : Nat → Int32} {D : va_G} {cI cJ : ClassId} {av : List Value} : FrameBlind (va_Pc av (pXc b L xs D cI cJ)) := fun a U g mk q => ⟨q.1, xE.vm (u := U) (U := U.calling g mk a) rfl q.2.1, va_X.moved (u := U) (U := U.calling g mk a) (Vm.Alike.refl U.vm) q.2.2⟩
def qR (D : va_G) (w1 : Nat → va_W) (A : Nat → Prop) : Array Value → State → Outcome → State → Prop := fun _ st oc t => (∃ a : Nat, oc = .returned (some (.ref a)) ∧ va_P D vwCl (w1 a) t.heap ∧ va_D A (w1 a)) ∧ va_F A st t
section XLN
variable {p : Program} {l : Launch} {e : Env} {R : Room} {s : State} {m : MethodId} {args : Array Value} {below : List Frame} {meth : Method} {c : Code} {H H0 : Heap} {locs : List Loc} {cells slots mc ms : Nat} {Q : State → Prop}
variable {y : MethodName} {bytes cc : ByteArray} {maxL nL n index : Nat} {ret : Option FieldType} {ws ws' : List Cond} {rm : Room} {Ts : List Cond} {own C : String} {b bX LX : Nat} {xs : Nat → Int32} {As rest st0 av : List Value} {D : va_G} {cI cJ : ClassId} {wc w1 W0 W1 : va_W} {x : Nat → Nat × va_E} {o : Option Value} {v : Value} {pc : Nat} {ls : Array Slot} {A0 : Nat → Prop} {sz : Nat}
theorem ro_SXc (S : CallFix p m c cc nL s args Ts own) (hM : Met l y ws rm (va_Pc As (pXc bX LX xs D cI cJ)) (rq v) 0 0 nofree) (cw : CallB R s args own index y bytes maxL ret ws rm 0 0 n ∧ (Cond.static y).before args s = true)
    (hE : xE D cI cJ s) (hX : va_X bX LX xs s H)
    (hn : As.length = n) (hsize : ls.size = nL) (hstack : st0 = As.reverse ++ rest) (hW : (rest.map fun v => v.category).sum ≤ 8) (hdg : decode cc pc = .ok (.invokestatic index, 3)) (hf : cells ≤ R.cells ∧ slots ≤ R.slots)
    (kk : W p l e R s m args below meth c H locs cells slots Q (F0 m (pc + 3) ls (v :: rest))) : W p l e R s m args below meth c H locs cells slots Q (F0 m pc ls st0) :=
  ro_back (va_runS S hM cw ⟨pXc.blind, fun U hU hW => ⟨rfl, xE.warm hW hE, by rw [hU]; exact va_X.moved hW.alike hX⟩⟩ rfl hn hsize hstack (by show 2 * 0 + _ ≤ 8; omega) hdg hf) kk
theorem ro_of_iXc {r : Int32} {maxL : Nat} (hy : plainName y.cls = true) (hw : ws = Cond.code y cc maxL (some .int) :: ws') (hlen : (lg_sl av).length ≤ maxL)
    (body : ∀ (p : Program) (e : Env) (s : State) (m : MethodId) (args : Array Value) (below : List Frame) (meth : Method) (c : Code) (Q : State → Prop) (ls : Array Slot), p.tables.exec = Jvm.exec → c.code = cc → c.maxLocals = maxL → s.vm.findClass y.cls = some m.cls → (∀ w ∈ ws, w.before args s = true) → xE D cI cJ s → va_X bX LX xs s s.heap →
      (∀ (pc : Nat) (ls : Array Slot) (v : Int32), decode cc pc = .ok (.ireturn, 1) → v = r → W p l e rm s m args below meth c s.heap [] 0 0 Q (F0 m pc ls [.int v])) → lv_has ls maxL (lv_args 0 av) → W p l e rm s m args below meth c s.heap [] 0 0 Q (F0 m 0 ls [])) :
    Met l y ws rm (va_Pc av (pXc bX LX xs D cI cJ)) (rq (.int r)) 0 0 nofree := by
  refine Met.ofW hy hw ?_
  intro p e s m args below meth c s₁ B hml hv
  obtain ⟨rfl, hE, hX⟩ := hv
  have hlocks := B.notSynchronized
  rw [lg_entry_eq]
  exact body p e s m _ below meth c _ _ B.exec B.bytes hml (findClass_of_methodNamed B.named) (atoms_spec (ws := ws) B.pre) hE hX (fun pc ls v hd hvr => by subst hvr; exact W.iret B.exec B.bytes B.returns (fun t ht _ => ⟨rfl, ht⟩) (fun q hq => by cases hq) hd) (lv_entry av hlen)
theorem mu_XS (S : CallFix p m c cc nL s args Ts own) (hM : Met l y ws rm (va_Pc As (pM D cI cJ wc H.size)) (qM o D w1 (va_A wc H.size)) 0 0 (va_A wc H.size)) (cw : CallB R s args own index y bytes maxL ret ws rm 0 0 n ∧ (Cond.static y).before args s = true)
    (hE : xE D cI cJ s)
    (hn : As.length = n) (hsize : ls.size = nL) (hstack : st0 = As.reverse ++ rest) (hWr : (rest.map fun v => v.category).sum ≤ 8) (hdg : decode cc pc = .ok (.invokestatic index, 3)) (hf : cells ≤ R.cells ∧ slots ≤ R.slots)
    (hP : va_P D vwCl W0 H) (hD : va_D A0 W0) (hS : va_S A0 H0 H locs) (hA : ∀ q, H0.size ≤ q → A0 q)
    (ms : List Bool) (hC : va_pk ms W0 = wc) (hW : va_mx ms W0 w1 = W1)
    (kk : ∀ (H1 : Heap) (locs1 : List Loc), va_P D vwCl W1 H1 → va_S A0 H0 H1 locs1 → W p l e R s m args below meth c H1 locs1 cells slots Q (F0 m (pc + 3) ls (o.toList ++ rest))) : W p l e R s m args below meth c H locs cells slots Q (F0 m pc ls st0) := by
  have hc := pk_P ms hC hP hD
  exact mu_backX (va_runS S hM cw ⟨pM.blind, fun U hU hW => ⟨rfl, by rw [hU], by rw [hU]; exact hc.1, xE.warm hW hE, hc.2⟩⟩ rfl hn hsize hstack (by show 2 * 0 + _ ≤ 8; omega) hdg hf) hP hD hS hA ms hC hW kk
/-- a method that makes one row and answers it -/
theorem nr_of {ty : FieldType} (hy : plainName y.cls = true) (hw : ws = Cond.code y cc maxL (some ty) :: ws') (hlen : (lg_sl av).length ≤ maxL)
    (body : ∀ (p : Program) (e : Env) (s : State) (m : MethodId) (args : Array Value) (below : List Frame) (meth : Method) (c : Code) (Q : State → Prop) (ls : Array Slot) (A : Nat → Prop), p.tables.exec = Jvm.exec → c.code = cc → c.maxLocals = maxL → s.vm.findClass y.cls = some m.cls → (∀ w ∈ ws, w.before args s = true) → xE D cI cJ s → va_P D vwCl wc s.heap → va_D A wc → (∀ q, s.heap.size ≤ q → A q) → meth.sig.returnType = some ty → meth.locks = false →
      (∀ (H : Heap) (locs : List Loc) (g : JFrame) (a : Nat), va_P D vwCl (wc ++ [x a]) H → va_D A (wc ++ [x a]) → va_S A s.heap H locs → (∀ (Qc : Array Value → State → Outcome → State → Prop) (free : Addr → Prop), (∀ t : State, t.heap = H → s.WarmedH t.vm → Qc args s (.returned (some (.ref a))) t) → (∀ q ∈ locs, free q.base) → W p l e rm s m args below meth c H locs mc ms (MQ below Qc args s mc ms free) g) → W p l e rm s m args below meth c H locs mc ms Q g) → lv_has ls maxL (lv_args 0 av) → W p l e rm s m args below meth c s.heap [] 0 0 Q (F0 m 0 ls [])) :
    Met l y ws rm (va_Pc av (pM D cI cJ wc sz)) (qR D (fun a => wc ++ [x a]) (va_A wc sz)) mc ms (va_A wc sz) := by
  refine Met.ofW hy hw ?_
  intro p e s m args below meth c s₁ B hml hv
  obtain ⟨rfl, hsz, hP, hE, hD0⟩ := hv
  subst hsz
  rw [lg_entry_eq]
  exact body p e s m _ below meth c _ _ _ B.exec B.bytes hml (findClass_of_methodNamed B.named) (atoms_spec (ws := ws) B.pre) hE hP (hD0.self (sz := s.heap.size)) (fun q h => Or.inr h) B.returns B.notSynchronized
    (fun H locs g a hP1 hD1 hS k => k _ _ (fun t ht _ => ⟨⟨a, rfl, by rw [ht]; exact hP1, hD1⟩, hS.F ht⟩) hS.2.2) (lv_entry av hlen)
theorem rs_pk : ∀ (ms : List Bool) (ws : va_W) (q : Nat × va_E), q ∈ ws → q ∈ va_rs ms ws ∨ q ∈ va_pk ms ws
  | [], ws, q, h => Or.inl (by cases ws <;> exact h)
  | true :: ms, [], q, h => absurd h List.not_mem_nil
  | false :: ms, [], q, h => absurd h List.not_mem_nil
  | true :: ms, x :: ws, q, h => by
    rcases List.mem_cons.mp h with e | h
    · exact Or.inr (List.mem_cons.mpr (Or.inl e))
    · exact (rs_pk ms ws q h).imp id (fun z => List.mem_cons.mpr (Or.inr z))
  | false :: ms, x :: ws, q, h => by
    rcases List.mem_cons.mp h with e | h
    · exact Or.inl (List.mem_cons.mpr (Or.inl e))
    · exact (rs_pk ms ws q h).imp (fun z => List.mem_cons.mpr (Or.inr z)) id
theorem nr_S (hx1 : ∀ a, (x a).1 = a) (S : CallFix p m c cc nL s args Ts own) (hM : Met l y ws rm (va_Pc As (pM D cI cJ wc H.size)) (qR D (fun a => wc ++ [x a]) (va_A wc H.size)) mc ms (va_A wc H.size)) (cw : CallB R s args own index y bytes maxL ret ws rm mc ms n ∧ (Cond.static y).before args s = true)
    (hE : xE D cI cJ s)
    (hn : As.length = n) (hsize : ls.size = nL) (hstack : st0 = As.reverse ++ rest) (hWr : (rest.map fun v => v.category).sum ≤ 8) (hdg : decode cc pc = .ok (.invokestatic index, 3)) (hf : cells + mc ≤ R.cells ∧ slots + ms ≤ R.slots)
    (hP : va_P D vwCl W0 H) (hD : va_D A0 W0) (hS : va_S A0 H0 H locs) (hA : ∀ q, H0.size ≤ q → A0 q)
    (mk : List Bool) (hC : va_pk mk W0 = wc)
    (kk : ∀ (a : Nat) (H1 : Heap) (locs1 : List Loc), va_P D vwCl (W0 ++ [x a]) H1 → va_D A0 (W0 ++ [x a]) → va_S A0 H0 H1 locs1 → W p l e R s m args below meth c H1 locs1 (cells + mc) (slots + ms) Q (F0 m (pc + 3) ls (.ref a :: rest))) : W p l e R s m args below meth c H locs cells slots Q (F0 m pc ls st0) := by
  have hc := pk_P mk hC hP hD
  have hr := va_runS S hM cw (H := H) (g := F0 m pc ls st0) (p := p) (l := l) (e := e) (below := below) (meth := meth) (locs := locs) (cells := cells) (slots := slots) ⟨pM.blind, fun U hU hW => ⟨rfl, by rw [hU], by rw [hU]; exact hc.1, xE.warm hW hE, hc.2⟩⟩ rfl hn hsize hstack (by show 2 * 0 + _ ≤ 8; omega) hdg hf
  intro T hT X
  obtain ⟨v, st₀, t, T', L, h0, X', hL, e1, e2, ⟨⟨a, hv, hp, hd⟩, hz, hk⟩, st⟩ := hr T hT X
  cases hv
  rw [h0] at hz hk
  have ap := D_ap W0 hD.1
  have inW : ∀ q, q ∈ wc → ∃ i : Nat, W0[i]? = some q := fun q hq => by
    rw [← hC] at hq
    exact List.mem_iff_getElem?.mp (pk_mem mk W0 q hq)
  have hF : ∀ q, va_A wc H.size q → A0 q := by
    intro q h
    rcases h with ⟨k, e, h⟩ | h
    · obtain ⟨i, hi⟩ := inW (q, e) (List.mem_of_getElem? h)
      exact hD.2 i (q, e) hi
    · exact hA q (Nat.le_trans hS.1 h)
  have hxa : (wc ++ [x a])[wc.length]? = some (x a) := by simp
  have hnew : H.size ≤ a := by
    have h1 := hd.2 wc.length (x a) hxa
    rw [hx1] at h1
    rcases h1 with ⟨k, e', h'⟩ | h'
    · have hlt : k < wc.length := (List.getElem?_eq_some_iff.mp h').1
      have h2 : (wc ++ [x a])[k]? = some (a, e') := by rw [List.getElem?_append_left hlt]; exact h'
      have := hd.1 k wc.length _ _ h2 hxa (by rw [hx1])
      omega
    · exact h'
  have key : ∀ q, q ∈ W0 ++ [x a] → va_at D vwCl q t.heap := by
    intro q hq
    rcases List.mem_append.mp hq with h | h
    · rcases rs_pk mk W0 q h with h | h
      · obtain ⟨i, hi⟩ := List.mem_iff_getElem?.mp (rs_mem mk W0 q h)
        have at0 := hP i q hi
        refine at0.kept (hk q.1 at0.lt ?_)
        intro z
        rcases z with ⟨k', e', h'⟩ | h'
        · have hcm : (q.1, e') ∈ va_pk mk W0 := by
            rw [hC]
            exact List.mem_of_getElem? h'
          exact ap_ne mk W0 ap q (q.1, e') h hcm rfl
        · exact absurd at0.lt (Nat.not_lt.mpr h')
      · rw [hC] at h
        obtain ⟨i, hi⟩ := List.mem_iff_getElem?.mp (List.mem_append_left [x a] h)
        exact hp i q hi
    · obtain ⟨i, hi⟩ := List.mem_iff_getElem?.mp (List.mem_append_right wc h)
      exact hp i q hi
  have hD1 : va_D A0 (W0 ++ [x a]) := by
    have hlt0 : ∀ (i : Nat) (q : Nat × va_E), W0[i]? = some q → q.1 < H.size := fun i q hi => (hP i q hi).lt
    have cut : ∀ (i : Nat) (q : Nat × va_E), (W0 ++ [x a])[i]? = some q → (i < W0.length ∧ W0[i]? = some q) ∨ (i = W0.length ∧ q = x a) := by
      intro i q hi
      by_cases hlt : i < W0.length
      · rw [List.getElem?_append_left hlt] at hi
        exact Or.inl ⟨hlt, hi⟩
      · rw [List.getElem?_append_right (Nat.le_of_not_lt hlt)] at hi
        have hz0 : i - W0.length = 0 := by
          cases hj : i - W0.length with
          | zero => rfl
          | succ j => rw [hj] at hi; simp at hi
        rw [hz0] at hi
        exact Or.inr ⟨by omega, (Option.some.inj hi).symm⟩
    refine ⟨fun i j p q hi hj hpq => ?_, fun i q hi => ?_⟩
    · rcases cut i p hi with ⟨l1, h1⟩ | ⟨l1, h1⟩ <;> rcases cut j q hj with ⟨l2, h2⟩ | ⟨l2, h2⟩
      · exact hD.1 i j p q h1 h2 hpq
      · have := hlt0 i p h1
        rw [h2, hx1] at hpq
        omega
      · have := hlt0 j q h2
        rw [h1, hx1] at hpq
        omega
      · omega
    · rcases cut i q hi with ⟨l1, h1⟩ | ⟨l1, h1⟩
      · exact hD.2 i q h1
      · rw [h1, hx1]
        exact hA a (Nat.le_trans hS.1 hnew)
  obtain ⟨t2, a1, b1⟩ := kk a T'.heap (locs ++ L) (by
      rw [e1]
      exact fun k q hq => key q (List.mem_of_getElem? hq)) hD1
    ⟨Nat.le_trans hS.1 (by rw [e1]; exact hz), fun q h1 h2 => by rw [e1, hk q (Nat.lt_of_lt_of_le h1 hS.1) (fun z => h2 (hF q z))]; exact hS.2.1 q h1 h2, fun q hq => by
      rcases List.mem_append.mp hq with h | h
      · exact hS.2.2 q h
      · exact hF _ (hL q h)⟩ T' rfl X'
  exact ⟨t2, st t2 a1, b1⟩
end XLN
