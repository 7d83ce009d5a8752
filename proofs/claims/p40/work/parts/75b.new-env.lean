/-! a constructor: what it starts from, the cells that come, how a caller goes on -/
theorem arr_int {D : va_G} {cI cJ cA : ClassId} {s : State} (h : va_K D vwCl ([(cI, .int), (cJ, .long)] ++ [(cA, .int)]) s) : cI = cA := by
  have h0 : s.vm.findClass ("[" ++ (FieldType.int).toString) = some cI := (h.2 0 _ rfl).2
  have h1 : s.vm.findClass ("[" ++ (FieldType.int).toString) = some cA := (h.2 2 _ rfl).2
  exact Option.some.inj (h0.symm.trans h1)
theorem arr_long {D : va_G} {cI cJ cA : ClassId} {s : State} (h : va_K D vwCl ([(cI, .int), (cJ, .long)] ++ [(cA, .long)]) s) : cJ = cA := by
  have h0 : s.vm.findClass ("[" ++ (FieldType.long).toString) = some cJ := (h.2 1 _ rfl).2
  have h1 : s.vm.findClass ("[" ++ (FieldType.long).toString) = some cA := (h.2 2 _ rfl).2
  exact Option.some.inj (h0.symm.trans h1)
def qN (D : va_G) (w1 : (Nat → Nat) → va_W) (A : Nat → Prop) : Array Value → State → Outcome → State → Prop := fun _ st oc t => oc = .returned none ∧ (∃ f : Nat → Nat, va_P D vwCl (w1 f) t.heap ∧ va_D A (w1 f)) ∧ va_F A st t
section XNI
variable {p : Program} {l : Launch} {e : Env} {R : Room} {s : State} {m : MethodId} {args : Array Value} {below : List Frame} {meth : Method} {c : Code} {H H0 : Heap} {locs : List Loc} {cells slots mc ms : Nat} {Q : State → Prop}
variable {y : MethodName} {bytes cc : ByteArray} {maxL nL n index : Nat} {ws : List Cond} {rm : Room} {Ts : List Cond} {own host : String} {b : Nat} {As rest st0 : List Value} {D : va_G} {cI cJ : ClassId} {wc W0 : va_W} {w1 : (Nat → Nat) → va_W} {pc : Nat} {ls : Array Slot} {A0 : Nat → Prop}
theorem ni_back {a : Array Value} (hr : va_Run p l e R s m args below meth c H locs cells slots mc ms (F0 m pc ls st0) rest (qN D w1 (va_A wc H.size) a) (va_A wc H.size))
    (hP : va_P D vwCl W0 H) (hD : va_D A0 W0) (hS : va_S A0 H0 H locs) (hA : ∀ q, H0.size ≤ q → A0 q)
    (isC isR : List Nat) (hC : isC.map (fun i => W0[i]?) = wc.map some) (hR : isR.map (fun i => W0[i]?) = (isR.filterMap (fun i => W0[i]?)).map some) (hn : va_nd isR = true) (hdis : isR.all (fun i => !isC.contains i) = true)
    (kk : ∀ (f : Nat → Nat) (H1 : Heap) (locs1 : List Loc), va_P D vwCl (isR.filterMap (fun i => W0[i]?) ++ w1 f) H1 → va_D A0 (isR.filterMap (fun i => W0[i]?) ++ w1 f) → va_S A0 H0 H1 locs1 → W p l e R s m args below meth c H1 locs1 (cells + mc) (slots + ms) Q (F0 m (pc + 3) ls rest)) : W p l e R s m args below meth c H locs cells slots Q (F0 m pc ls st0) := by
  intro T hT X
  obtain ⟨v, st₀, t, T', L, h0, X', hL, e1, e2, ⟨hv, ⟨f, hp, hd⟩, hz, hk⟩, st⟩ := hr T hT X
  cases hv
  rw [h0] at hz hk
  have hF : ∀ q, va_A wc H.size q → A0 q := va_free hD hS hA isC hC
  have hdis' : ∀ i ∈ isR, i ∉ isC := fun i hi hc => by
    have := List.all_eq_true.mp hdis i hi
    simp [hc] at this
  have hj := va_join (wr := isR.filterMap (fun i => W0[i]?)) (w1 := w1 f) (H1 := t.heap) hP hD isC isR hC hR hn hdis' (fun q h1 h2 => hk q h1 h2) hF hp hd
  obtain ⟨t2, a1, b1⟩ := kk f T'.heap (locs ++ L) (by rw [e1]; exact hj.1) hj.2
    ⟨Nat.le_trans hS.1 (by rw [e1]; exact hz), fun q h1 h2 => by rw [e1, hk q (Nat.lt_of_lt_of_le h1 hS.1) (fun z => h2 (hF q z))]; exact hS.2.1 q h1 h2, fun q hq => by
      rcases List.mem_append.mp hq with h | h
      · exact hS.2.2 q h
      · exact hF _ (hL q h)⟩ T' rfl X'
  exact ⟨t2, st t2 a1, b1⟩
theorem ni_pre (hE : xE D cI cJ s) (hP : va_P D vwCl W0 H) (hD : va_D A0 W0) (isC : List Nat) (hC : isC.map (fun i => W0[i]?) = wc.map some) (hnC : va_nd isC = true) (av : List Value) : PreS s H (va_Pc av (pM D cI cJ wc H.size)) av := by
  have hDc : va_D (fun _ => True) wc := (hD.sub isC hnC hC).weaken (fun _ _ _ _ => trivial)
  have hPc : va_P D vwCl wc H := fun k q hk => by
    have h1 : (isC.map (fun i => W0[i]?))[k]? = some (some q) := by rw [hC, List.getElem?_map, hk]; rfl
    rw [List.getElem?_map] at h1
    cases hi : isC[k]? with
    | none => rw [hi] at h1; cases h1
    | some i => rw [hi] at h1; exact hP i q (Option.some.inj h1)
  exact ⟨pM.blind, fun U hU hW => ⟨rfl, by rw [hU], by rw [hU]; exact hPc, xE.warm hW hE, hDc⟩⟩
theorem ni_I (S : CallFix p m c cc nL s args Ts own) (hM : Met l y ws rm (va_Pc (.ref b :: As) (pM D cI cJ wc H.size)) (qN D w1 (va_A wc H.size)) mc ms (va_A wc H.size)) (cw : CallB R s args own index y bytes maxL none ws rm mc ms n ∧ y.name = "<init>" ∧ (Cond.instanceMethod y).before args s = true)
    (hE : xE D cI cJ s) (hn : As.length = n) (hsize : ls.size = nL) (hstack : st0 = As.reverse ++ .ref b :: rest) (hWr : (rest.map fun v => v.category).sum ≤ 8) (hdg : decode cc pc = .ok (.invokespecial index, 3)) (hf : cells + mc ≤ R.cells ∧ slots + ms ≤ R.slots)
    (hP : va_P D vwCl W0 H) (hD : va_D A0 W0) (hS : va_S A0 H0 H locs) (hA : ∀ q, H0.size ≤ q → A0 q)
    (isC isR : List Nat) (hC : isC.map (fun i => W0[i]?) = wc.map some) (hR : isR.map (fun i => W0[i]?) = (isR.filterMap (fun i => W0[i]?)).map some) (hnd : va_nd isR = true) (hdis : isR.all (fun i => !isC.contains i) = true) (hnC : va_nd isC = true)
    (kk : ∀ (f : Nat → Nat) (H1 : Heap) (locs1 : List Loc), va_P D vwCl (isR.filterMap (fun i => W0[i]?) ++ w1 f) H1 → va_D A0 (isR.filterMap (fun i => W0[i]?) ++ w1 f) → va_S A0 H0 H1 locs1 → W p l e R s m args below meth c H1 locs1 (cells + mc) (slots + ms) Q (F0 m (pc + 3) ls rest)) : W p l e R s m args below meth c H locs cells slots Q (F0 m pc ls st0) :=
  ni_back (va_runI S hM cw (ni_pre hE hP hD isC hC hnC _) rfl hn hsize hstack (by show 2 * 0 + _ ≤ 8; omega) hdg hf) hP hD hS hA isC isR hC hR hnd hdis kk
theorem ni_IN (S : CallFix p m c cc nL s args Ts own) (hM : Met l y ws rm (va_Pc (.ref b :: As) (pM D cI cJ wc H.size)) (qN D w1 (va_A wc H.size)) mc ms (va_A wc H.size)) (cw : va_CN R s args own index y host bytes maxL none ws rm mc ms n ∧ y.name = "<init>" ∧ (Cond.instanceMethod y).before args s = true)
    (hE : xE D cI cJ s) (hn : As.length = n) (hsize : ls.size = nL) (hstack : st0 = As.reverse ++ .ref b :: rest) (hWr : (rest.map fun v => v.category).sum ≤ 8) (hdg : decode cc pc = .ok (.invokespecial index, 3)) (hf : cells + mc ≤ R.cells ∧ slots + ms ≤ R.slots)
    (hP : va_P D vwCl W0 H) (hD : va_D A0 W0) (hS : va_S A0 H0 H locs) (hA : ∀ q, H0.size ≤ q → A0 q)
    (isC isR : List Nat) (hC : isC.map (fun i => W0[i]?) = wc.map some) (hR : isR.map (fun i => W0[i]?) = (isR.filterMap (fun i => W0[i]?)).map some) (hnd : va_nd isR = true) (hdis : isR.all (fun i => !isC.contains i) = true) (hnC : va_nd isC = true)
    (kk : ∀ (f : Nat → Nat) (H1 : Heap) (locs1 : List Loc), va_P D vwCl (isR.filterMap (fun i => W0[i]?) ++ w1 f) H1 → va_D A0 (isR.filterMap (fun i => W0[i]?) ++ w1 f) → va_S A0 H0 H1 locs1 → W p l e R s m args below meth c H1 locs1 (cells + mc) (slots + ms) Q (F0 m (pc + 3) ls rest)) : W p l e R s m args below meth c H locs cells slots Q (F0 m pc ls st0) :=
  ni_back (va_runIN S hM cw (ni_pre hE hP hD isC hC hnC _) rfl hn hsize hstack (by show 2 * 0 + _ ≤ 8; omega) hdg hf) hP hD hS hA isC isR hC hR hnd hdis kk
end XNI
section XNF
variable {l : Launch} {y : MethodName} {ws ws' : List Cond} {rm : Room} {cc : ByteArray} {maxL mc ms : Nat} {D : va_G} {cI cJ : ClassId} {wc : va_W} {w1 : (Nat → Nat) → va_W} {av : List Value} {sz : Nat}
theorem nu_of (hy : plainName y.cls = true) (hw : ws = Cond.code y cc maxL none :: ws') (hlen : (lg_sl av).length ≤ maxL)
    (body : ∀ (p : Program) (e : Env) (s : State) (m : MethodId) (args : Array Value) (below : List Frame) (meth : Method) (c : Code) (Q : State → Prop) (ls : Array Slot) (A : Nat → Prop), p.tables.exec = Jvm.exec → c.code = cc → c.maxLocals = maxL → s.vm.findClass y.cls = some m.cls → (∀ w ∈ ws, w.before args s = true) → xE D cI cJ s → va_P D vwCl wc s.heap → va_D A wc → (∀ q, s.heap.size ≤ q → A q) → meth.sig.returnType = none → meth.locks = false → meth.name = y.name →
      (∀ (H : Heap) (locs : List Loc) (g : JFrame) (f : Nat → Nat), va_P D vwCl (w1 f) H → va_D A (w1 f) → va_S A s.heap H locs → (∀ (Qc : Array Value → State → Outcome → State → Prop) (free : Addr → Prop), (∀ t : State, t.heap = H → s.WarmedH t.vm → Qc args s (.returned none) t) → (∀ q ∈ locs, free q.base) → W p l e rm s m args below meth c H locs mc ms (MQ below Qc args s mc ms free) g) → W p l e rm s m args below meth c H locs mc ms Q g) → lv_has ls maxL (lv_args 0 av) → W p l e rm s m args below meth c s.heap [] 0 0 Q (F0 m 0 ls [])) :
    Met l y ws rm (va_Pc av (pM D cI cJ wc sz)) (qN D w1 (va_A wc sz)) mc ms (va_A wc sz) := by
  refine Met.ofW hy hw ?_
  intro p e s m args below meth c s₁ B hml hv
  obtain ⟨rfl, hsz, hP, hE, hD0⟩ := hv
  subst hsz
  rw [lg_entry_eq]
  exact body p e s m _ below meth c _ _ _ B.exec B.bytes hml (findClass_of_methodNamed B.named) (atoms_spec (ws := ws) B.pre) hE hP (hD0.self (sz := s.heap.size)) (fun q h => Or.inr h) B.returns B.notSynchronized (name_of_methodNamed B.named B.method).1
    (fun H locs g f hP1 hD1 hS k => k _ _ (fun t ht _ => ⟨rfl, ⟨f, by rw [ht]; exact hP1, hD1⟩, hS.F ht⟩) hS.2.2) (lv_entry av hlen)
end XNF
