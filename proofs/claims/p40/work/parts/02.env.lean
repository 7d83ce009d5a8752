/-! the environment of every method: what the tables say of classes and arrays, the nest mates' links -/
def xNest : List Cond := [.fieldLinkNest RX6 119 "PascalRows$Setup" "modulus" "I" "PascalRows", .fieldLinkNest RX6 198 "PascalRows$Setup" "seen" "LPascalRows$Lines;" "PascalRows", .fieldLinkNest RX6 221 "PascalRows$Setup" "events" "LPascalRows$Lines;" "PascalRows", .fieldLinkNest RX6 235 "PascalRows$Setup" "book" "LPascalRows$Lines;" "PascalRows", .fieldLinkNest RX6 255 "PascalRows$Reader" "length" "I" "PascalRows", .fieldLinkNest RX6 47 "PascalRows$Setup" "p" "I" "PascalRows", .fieldLinkNest RX6 51 "PascalRows$Setup" "e" "I" "PascalRows", .fieldLinkNest RX6 62 "PascalRows$Setup" "marks" "LPascalRows$Lines;" "PascalRows", .fieldLinkNest RX6 72 "PascalRows$Lines" "size" "I" "PascalRows", .fieldLinkNest RX3 98 "PascalRows$Lines" "size" "I" "PascalRows", .fieldLinkNest RX6 78 "PascalRows$Setup" "windowRow" "I" "PascalRows", .fieldLinkNest RX6 81 "PascalRows$Setup" "windowPlace" "I" "PascalRows", .fieldLinkNest RX6 94 "PascalRows$Reader" "clauses" "LPascalRows$Lines;" "PascalRows", .methodLinkNest RX6 35 yX2_init "PascalRows", .methodLinkNest RX6 42 yX4_init "PascalRows", .methodLinkNest RX1 28 yX6_isWithin "PascalRows", .methodLinkNest RX2 54 yX6_isWithin "PascalRows", .methodLinkNest RX3 94 yX6_isPlace "PascalRows", .methodLinkNest RX4 20 yX6_isWithin "PascalRows"]
def xE (D : va_G) (cI cJ : ClassId) (U : State) : Prop := va_K D vwCl [(cI, .int), (cJ, .long)] U ∧ ∀ w ∈ xNest, va_Nw w U
theorem xE.nest {D : va_G} {cI cJ : ClassId} {U : State} {args : Array Value} {w : Cond} (h : xE D cI cJ U) (k : Nat) (hk : xNest[k]? = some w) (hw : w.onTables = true) : w.before args U = true := va_Nw.use hw (h.2 w (List.mem_of_getElem? hk))
theorem xE.nw {D : va_G} {cI cJ : ClassId} {U : State} {w : Cond} (h : xE D cI cJ U) (k : Nat) (hk : xNest[k]? = some w) : va_Nw w U := h.2 w (List.mem_of_getElem? hk)
theorem xE.warm {D : va_G} {cI cJ : ClassId} {s U : State} (hW : s.WarmedH U.vm) (h : xE D cI cJ s) : xE D cI cJ U := by
  refine ⟨va_K.moved hW.alike h.1, fun w hw => ?_⟩
  have h0 := h.2 w hw
  simp only [xNest, List.mem_cons, List.not_mem_nil, or_false] at hw
  rcases hw with rfl | rfl | rfl | rfl | rfl | rfl | rfl | rfl | rfl | rfl | rfl | rfl | rfl | rfl | rfl | rfl | rfl | rfl | rfl <;> first | exact va_Nw.warmF hW h0 | exact va_Nw.warmM hW h0
theorem xNest_tables : ∀ w ∈ xNest, w.onTables = true := fun w h => List.all_eq_true.mp (by decide +kernel : xNest.all (fun w => w.onTables) = true) w h
theorem xE.vm {D : va_G} {cI cJ : ClassId} {u U : State} (hv : u.vm = U.vm) (h : xE D cI cJ u) : xE D cI cJ U := ⟨va_K.moved (by rw [hv]; exact Vm.Alike.refl U.vm) h.1, fun w hw => va_Nw.same (xNest_tables w hw) hv (h.2 w hw)⟩
/-! what a method that only reads starts from, and how it ends -/
def pE (D : va_G) (cI cJ : ClassId) (wc : va_W) : State → Prop := fun U => va_P D vwCl wc U.heap ∧ xE D cI cJ U
def rq (v : Value) : Array Value → State → Outcome → State → Prop := fun _ st oc t => oc = .returned (some v) ∧ t.heap = st.heap
def nofree : Addr → Prop := fun _ => False
theorem pE.blind {D : va_G} {cI cJ : ClassId} {wc : va_W} {av : List Value} : FrameBlind (va_Pc av (pE D cI cJ wc)) := fun a U g mk q => ⟨q.1, q.2.1, xE.vm (u := U) (U := U.calling g mk a) rfl q.2.2⟩
section XRO
variable {p : Program} {l : Launch} {e : Env} {R : Room} {s : State} {m : MethodId} {args : Array Value} {below : List Frame} {meth : Method} {c : Code} {H : Heap} {locs : List Loc} {cells slots : Nat} {Q : State → Prop}
variable {y : MethodName} {bytes cc : ByteArray} {maxL nL n index : Nat} {ret : Option FieldType} {ws : List Cond} {rm : Room} {Ts : List Cond} {own C host : String} {b : Nat} {As rest st0 : List Value} {D : va_G} {cI cJ : ClassId} {wc w0 : va_W} {v : Value} {pc : Nat} {ls : Array Slot} {ci : Nat} {fs : List Value} {q : vw_C}
theorem ro_back {a : Array Value} (hr : va_Run p l e R s m args below meth c H locs cells slots 0 0 (F0 m pc ls st0) rest (rq v a) nofree)
    (kk : W p l e R s m args below meth c H locs cells slots Q (F0 m (pc + 3) ls (v :: rest))) : W p l e R s m args below meth c H locs cells slots Q (F0 m pc ls st0) := by
  intro T hT X
  obtain ⟨v', st₀, t, T', L, h0, X', hL, e1, e2, ⟨hv, hh⟩, st⟩ := hr T hT X
  cases hv
  have hL0 : L = [] := by
    cases L with
    | nil => rfl
    | cons a as => exact (hL a List.mem_cons_self).elim
  subst hL0
  rw [List.append_nil] at X'
  obtain ⟨t2, a1, b1⟩ := kk T' (by rw [e1, hh, h0]) X'
  exact ⟨t2, st t2 a1, b1⟩
theorem ro_V (S : CallFix p m c cc nL s args Ts own) (hM : Met l y ws rm (va_Pc (.ref b :: As) (pE D cI cJ wc)) (rq v) 0 0 nofree) (cw : CallW R s args own C index y bytes maxL ret ws rm 0 0 n)
    (hE : xE D cI cJ s) (hP0 : va_P D vwCl w0 H) (k0 : Nat) (he : w0[k0]? = some (b, .inr (ci, fs))) (hcl : vwCl[ci]? = some q) (hC : q.1 = C) (hP : va_P D vwCl wc H)
    (hn : As.length = n) (hsize : ls.size = nL) (hstack : st0 = As.reverse ++ .ref b :: rest) (hW : (rest.map fun v => v.category).sum ≤ 8) (hdg : decode cc pc = .ok (.invokevirtual index, 3)) (hf : cells ≤ R.cells ∧ slots ≤ R.slots)
    (kk : W p l e R s m args below meth c H locs cells slots Q (F0 m (pc + 3) ls (v :: rest))) : W p l e R s m args below meth c H locs cells slots Q (F0 m pc ls st0) := by
  subst hC
  exact ro_back (va_runV S hM cw ⟨pE.blind, va_recv hE.1 hP0 hcl he, fun U hU hW => ⟨rfl, by rw [hU]; exact hP, xE.warm hW hE⟩⟩ rfl hn hsize hstack (by show 2 * 0 + _ ≤ 8; omega) hdg hf) kk
theorem ro_VN (S : CallFix p m c cc nL s args Ts own) (hM : Met l y ws rm (va_Pc (.ref b :: As) (pE D cI cJ wc)) (rq v) 0 0 nofree) (cw : va_CN R s args own index y host bytes maxL ret ws rm 0 0 n ∧ (Cond.instanceMethod y).before args s = true ∧ (Cond.selects C y y).before args s = true)
    (hE : xE D cI cJ s) (hP0 : va_P D vwCl w0 H) (k0 : Nat) (he : w0[k0]? = some (b, .inr (ci, fs))) (hcl : vwCl[ci]? = some q) (hC : q.1 = C) (hP : va_P D vwCl wc H)
    (hn : As.length = n) (hsize : ls.size = nL) (hstack : st0 = As.reverse ++ .ref b :: rest) (hW : (rest.map fun v => v.category).sum ≤ 8) (hdg : decode cc pc = .ok (.invokevirtual index, 3)) (hf : cells ≤ R.cells ∧ slots ≤ R.slots)
    (kk : W p l e R s m args below meth c H locs cells slots Q (F0 m (pc + 3) ls (v :: rest))) : W p l e R s m args below meth c H locs cells slots Q (F0 m pc ls st0) := by
  subst hC
  exact ro_back (va_runVN S hM cw ⟨pE.blind, va_recv hE.1 hP0 hcl he, fun U hU hW => ⟨rfl, by rw [hU]; exact hP, xE.warm hW hE⟩⟩ rfl hn hsize hstack (by show 2 * 0 + _ ≤ 8; omega) hdg hf) kk
theorem ro_S (S : CallFix p m c cc nL s args Ts own) (hM : Met l y ws rm (va_Pc As (pE D cI cJ wc)) (rq v) 0 0 nofree) (cw : CallB R s args own index y bytes maxL ret ws rm 0 0 n ∧ (Cond.static y).before args s = true)
    (hE : xE D cI cJ s) (hP : va_P D vwCl wc H)
    (hn : As.length = n) (hsize : ls.size = nL) (hstack : st0 = As.reverse ++ rest) (hW : (rest.map fun v => v.category).sum ≤ 8) (hdg : decode cc pc = .ok (.invokestatic index, 3)) (hf : cells ≤ R.cells ∧ slots ≤ R.slots)
    (kk : W p l e R s m args below meth c H locs cells slots Q (F0 m (pc + 3) ls (v :: rest))) : W p l e R s m args below meth c H locs cells slots Q (F0 m pc ls st0) :=
  ro_back (va_runS S hM cw ⟨pE.blind, fun U hU hW => ⟨rfl, by rw [hU]; exact hP, xE.warm hW hE⟩⟩ rfl hn hsize hstack (by show 2 * 0 + _ ≤ 8; omega) hdg hf) kk
theorem ro_SN (S : CallFix p m c cc nL s args Ts own) (hM : Met l y ws rm (va_Pc As (pE D cI cJ wc)) (rq v) 0 0 nofree) (cw : va_CN R s args own index y host bytes maxL ret ws rm 0 0 n ∧ (Cond.static y).before args s = true ∧ True)
    (hE : xE D cI cJ s) (hP : va_P D vwCl wc H)
    (hn : As.length = n) (hsize : ls.size = nL) (hstack : st0 = As.reverse ++ rest) (hW : (rest.map fun v => v.category).sum ≤ 8) (hdg : decode cc pc = .ok (.invokestatic index, 3)) (hf : cells ≤ R.cells ∧ slots ≤ R.slots)
    (kk : W p l e R s m args below meth c H locs cells slots Q (F0 m (pc + 3) ls (v :: rest))) : W p l e R s m args below meth c H locs cells slots Q (F0 m pc ls st0) :=
  ro_back (va_runSN S hM cw ⟨pE.blind, fun U hU hW => ⟨rfl, by rw [hU]; exact hP, xE.warm hW hE⟩⟩ rfl hn hsize hstack (by show 2 * 0 + _ ≤ 8; omega) hdg hf) kk
end XRO
section XOF
variable {l : Launch} {y : MethodName} {ws ws' : List Cond} {rm : Room} {cc : ByteArray} {maxL : Nat} {D : va_G} {cI cJ : ClassId} {wc : va_W} {av : List Value}
theorem ro_of_i {r : Int32} (hy : plainName y.cls = true) (hw : ws = Cond.code y cc maxL (some .int) :: ws') (hlen : (lg_sl av).length ≤ maxL)
    (body : ∀ (p : Program) (e : Env) (s : State) (m : MethodId) (args : Array Value) (below : List Frame) (meth : Method) (c : Code) (Q : State → Prop) (ls : Array Slot), p.tables.exec = Jvm.exec → c.code = cc → c.maxLocals = maxL → s.vm.findClass y.cls = some m.cls → (∀ w ∈ ws, w.before args s = true) → xE D cI cJ s → va_P D vwCl wc s.heap →
      (∀ (pc : Nat) (ls : Array Slot) (v : Int32), decode cc pc = .ok (.ireturn, 1) → v = r → W p l e rm s m args below meth c s.heap [] 0 0 Q (F0 m pc ls [.int v])) → lv_has ls maxL (lv_args 0 av) → W p l e rm s m args below meth c s.heap [] 0 0 Q (F0 m 0 ls [])) :
    Met l y ws rm (va_Pc av (pE D cI cJ wc)) (rq (.int r)) 0 0 nofree := by
  refine Met.ofW hy hw ?_
  intro p e s m args below meth c s₁ B hml hv
  obtain ⟨rfl, hP, hE⟩ := hv
  have hlocks := B.notSynchronized
  rw [lg_entry_eq]
  exact body p e s m _ below meth c _ _ B.exec B.bytes hml (findClass_of_methodNamed B.named) (atoms_spec (ws := ws) B.pre) hE hP (fun pc ls v hd hvr => by subst hvr; exact W.iret B.exec B.bytes B.returns (fun t ht _ => ⟨rfl, ht⟩) (fun q hq => by cases hq) hd) (lv_entry av hlen)
theorem ro_of_z {r : Int32} (hy : plainName y.cls = true) (hw : ws = Cond.code y cc maxL (some .boolean) :: ws') (hlen : (lg_sl av).length ≤ maxL)
    (body : ∀ (p : Program) (e : Env) (s : State) (m : MethodId) (args : Array Value) (below : List Frame) (meth : Method) (c : Code) (Q : State → Prop) (ls : Array Slot), p.tables.exec = Jvm.exec → c.code = cc → c.maxLocals = maxL → s.vm.findClass y.cls = some m.cls → (∀ w ∈ ws, w.before args s = true) → xE D cI cJ s → va_P D vwCl wc s.heap →
      (∀ (pc : Nat) (ls : Array Slot) (v : Int32), decode cc pc = .ok (.ireturn, 1) → (v = 0 ∨ v = 1) → v = r → W p l e rm s m args below meth c s.heap [] 0 0 Q (F0 m pc ls [.int v])) → lv_has ls maxL (lv_args 0 av) → W p l e rm s m args below meth c s.heap [] 0 0 Q (F0 m 0 ls [])) :
    Met l y ws rm (va_Pc av (pE D cI cJ wc)) (rq (.int r)) 0 0 nofree := by
  refine Met.ofW hy hw ?_
  intro p e s m args below meth c s₁ B hml hv
  obtain ⟨rfl, hP, hE⟩ := hv
  have hlocks := B.notSynchronized
  rw [lg_entry_eq]
  exact body p e s m _ below meth c _ _ B.exec B.bytes hml (findClass_of_methodNamed B.named) (atoms_spec (ws := ws) B.pre) hE hP (fun pc ls v hd hz hvr => by subst hvr; exact W.zret B.exec B.bytes B.returns (by rcases hz with rfl | rfl <;> rfl) (fun t ht _ => ⟨rfl, ht⟩) (fun q hq => by cases hq) hd) (lv_entry av hlen)
theorem ro_of_l {r : Int64} (hy : plainName y.cls = true) (hw : ws = Cond.code y cc maxL (some .long) :: ws') (hlen : (lg_sl av).length ≤ maxL)
    (body : ∀ (p : Program) (e : Env) (s : State) (m : MethodId) (args : Array Value) (below : List Frame) (meth : Method) (c : Code) (Q : State → Prop) (ls : Array Slot), p.tables.exec = Jvm.exec → c.code = cc → c.maxLocals = maxL → s.vm.findClass y.cls = some m.cls → (∀ w ∈ ws, w.before args s = true) → xE D cI cJ s → va_P D vwCl wc s.heap →
      (∀ (pc : Nat) (ls : Array Slot) (v : Int64), decode cc pc = .ok (.lreturn, 1) → v = r → W p l e rm s m args below meth c s.heap [] 0 0 Q (F0 m pc ls [.long v])) → lv_has ls maxL (lv_args 0 av) → W p l e rm s m args below meth c s.heap [] 0 0 Q (F0 m 0 ls [])) :
    Met l y ws rm (va_Pc av (pE D cI cJ wc)) (rq (.long r)) 0 0 nofree := by
  refine Met.ofW hy hw ?_
  intro p e s m args below meth c s₁ B hml hv
  obtain ⟨rfl, hP, hE⟩ := hv
  have hlocks := B.notSynchronized
  rw [lg_entry_eq]
  exact body p e s m _ below meth c _ _ B.exec B.bytes hml (findClass_of_methodNamed B.named) (atoms_spec (ws := ws) B.pre) hE hP (fun pc ls v hd hvr => by subst hvr; exact W.lret B.exec B.bytes B.returns (fun t ht _ => ⟨rfl, ht⟩) (fun q hq => by cases hq) hd) (lv_entry av hlen)
end XOF
/-! a method that reads the static row PRIMES -/
def pES (aS : Nat) (D : va_G) (cI cJ : ClassId) (wc : va_W) : State → Prop := fun U => va_P D vwCl wc U.heap ∧ xE D cI cJ U ∧ va_Z "PascalRows" "PRIMES" "[I" (.ref aS) (fun _ => False) U U.heap
theorem pES.blind {aS : Nat} {D : va_G} {cI cJ : ClassId} {wc : va_W} {av : List Value} : FrameBlind (va_Pc av (pES aS D cI cJ wc)) := fun a U g mk q => ⟨q.1, q.2.1, xE.vm (u := U) (U := U.calling g mk a) rfl q.2.2.1, va_Z.moved (u := U) (U := U.calling g mk a) (Vm.Alike.refl U.vm) q.2.2.2⟩
section XSF
variable {l : Launch} {y : MethodName} {ws ws' : List Cond} {rm : Room} {cc : ByteArray} {maxL : Nat} {D : va_G} {cI cJ : ClassId} {wc : va_W} {av : List Value} {aS : Nat}
theorem ro_of_iS {r : Int32} (hy : plainName y.cls = true) (hw : ws = Cond.code y cc maxL (some .int) :: ws') (hlen : (lg_sl av).length ≤ maxL)
    (body : ∀ (p : Program) (e : Env) (s : State) (m : MethodId) (args : Array Value) (below : List Frame) (meth : Method) (c : Code) (Q : State → Prop) (ls : Array Slot), p.tables.exec = Jvm.exec → c.code = cc → c.maxLocals = maxL → s.vm.findClass y.cls = some m.cls → (∀ w ∈ ws, w.before args s = true) → xE D cI cJ s → va_P D vwCl wc s.heap → va_Z "PascalRows" "PRIMES" "[I" (.ref aS) (fun _ => False) s s.heap →
      (∀ (pc : Nat) (ls : Array Slot) (v : Int32), decode cc pc = .ok (.ireturn, 1) → v = r → W p l e rm s m args below meth c s.heap [] 0 0 Q (F0 m pc ls [.int v])) → lv_has ls maxL (lv_args 0 av) → W p l e rm s m args below meth c s.heap [] 0 0 Q (F0 m 0 ls [])) :
    Met l y ws rm (va_Pc av (pES aS D cI cJ wc)) (rq (.int r)) 0 0 nofree := by
  refine Met.ofW hy hw ?_
  intro p e s m args below meth c s₁ B hml hv
  obtain ⟨rfl, hP, hE, hZ⟩ := hv
  have hlocks := B.notSynchronized
  rw [lg_entry_eq]
  exact body p e s m _ below meth c _ _ B.exec B.bytes hml (findClass_of_methodNamed B.named) (atoms_spec (ws := ws) B.pre) hE hP hZ (fun pc ls v hd hvr => by subst hvr; exact W.iret B.exec B.bytes B.returns (fun t ht _ => ⟨rfl, ht⟩) (fun q hq => by cases hq) hd) (lv_entry av hlen)
end XSF
