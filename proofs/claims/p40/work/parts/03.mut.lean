/-! a method that writes: what it starts from, how it ends, how a caller goes on -/
theorem va_D.fst {A : Nat → Prop} {ws ws' : va_W} (h : va_D A ws) (e : ws'.map Prod.fst = ws.map Prod.fst) : va_D A ws' := by
  have key : ∀ (k : Nat) (q : Nat × va_E), ws'[k]? = some q → ∃ q', ws[k]? = some q' ∧ q'.1 = q.1 := by
    intro k q hq
    have h1 : (ws'.map Prod.fst)[k]? = some q.1 := by rw [List.getElem?_map, hq]; rfl
    rw [e, List.getElem?_map] at h1
    cases hw : ws[k]? with
    | none => rw [hw] at h1; cases h1
    | some q' => rw [hw] at h1; exact ⟨q', rfl, Option.some.inj h1⟩
  refine ⟨fun i j p q hi hj hpq => ?_, fun k q hk => ?_⟩
  · obtain ⟨p', hp', ep⟩ := key i p hi
    obtain ⟨q', hq', eq⟩ := key j q hj
    exact h.1 i j p' q' hp' hq' (by rw [ep, eq, hpq])
  · obtain ⟨q', hq', eq⟩ := key k q hk
    rw [← eq]
    exact h.2 k q' hq'
def pM (D : va_G) (cI cJ : ClassId) (wc : va_W) (sz : Nat) : State → Prop := fun U => U.heap.size = sz ∧ va_P D vwCl wc U.heap ∧ xE D cI cJ U ∧ va_D (fun _ => True) wc
def qM (o : Option Value) (D : va_G) (w1 : va_W) (A : Nat → Prop) : Array Value → State → Outcome → State → Prop := fun _ st oc t => oc = .returned o ∧ va_P D vwCl w1 t.heap ∧ va_F A st t
theorem pM.blind {D : va_G} {cI cJ : ClassId} {wc : va_W} {sz : Nat} {av : List Value} : FrameBlind (va_Pc av (pM D cI cJ wc sz)) := fun a U g mk q => ⟨q.1, q.2.1, q.2.2.1, xE.vm (u := U) (U := U.calling g mk a) rfl q.2.2.2.1, q.2.2.2.2⟩
section XMU
variable {p : Program} {l : Launch} {e : Env} {R : Room} {s : State} {m : MethodId} {args : Array Value} {below : List Frame} {meth : Method} {c : Code} {H H0 : Heap} {locs : List Loc} {cells slots : Nat} {Q : State → Prop}
variable {y : MethodName} {bytes cc : ByteArray} {maxL nL n index : Nat} {ret : Option FieldType} {ws : List Cond} {rm : Room} {Ts : List Cond} {own C host : String} {b : Nat} {As rest st0 : List Value} {D : va_G} {cI cJ : ClassId} {wc w1 W0 W1 : va_W} {o : Option Value} {pc : Nat} {ls : Array Slot} {ci : Nat} {fs : List Value} {q : vw_C} {A0 : Nat → Prop}
theorem mu_back {a : Array Value} (hr : va_Run p l e R s m args below meth c H locs cells slots 0 0 (F0 m pc ls st0) rest (qM o D w1 (va_A wc H.size) a) (va_A wc H.size))
    (hP : va_P D vwCl W0 H) (hD : va_D A0 W0) (hS : va_S A0 H0 H locs) (hA : ∀ q, H0.size ≤ q → A0 q)
    (isC isR isW : List Nat) (hC : isC.map (fun i => W0[i]?) = wc.map some) (hR : isR.map (fun i => W0[i]?) = (isR.filterMap (fun i => W0[i]?)).map some) (hn : va_nd isR = true) (hdis : isR.all (fun i => !isC.contains i) = true) (hfst : w1.map Prod.fst = wc.map Prod.fst) (hnC : va_nd isC = true)
    (hW : isW.filterMap (fun i => (isR.filterMap (fun i => W0[i]?) ++ w1)[i]?) = W1)
    (kk : ∀ (H1 : Heap) (locs1 : List Loc), va_P D vwCl W1 H1 → va_S A0 H0 H1 locs1 → W p l e R s m args below meth c H1 locs1 cells slots Q (F0 m (pc + 3) ls (o.toList ++ rest))) : W p l e R s m args below meth c H locs cells slots Q (F0 m pc ls st0) := by
  intro T hT X
  obtain ⟨v, st₀, t, T', L, h0, X', hL, e1, e2, ⟨hv, hp, hz, hk⟩, st⟩ := hr T hT X
  cases hv
  rw [h0] at hz hk
  have hF : ∀ q, va_A wc H.size q → A0 q := va_free hD hS hA isC hC
  have hD1 : va_D (va_A wc H.size) w1 := ((hD.sub isC hnC hC).self (sz := H.size)).fst hfst
  have hdis' : ∀ i ∈ isR, i ∉ isC := fun i hi hc => by
    have := List.all_eq_true.mp hdis i hi
    simp [hc] at this
  have hj := va_join (wr := isR.filterMap (fun i => W0[i]?)) (w1 := w1) (H1 := t.heap) hP hD isC isR hC hR hn hdis' (fun q h1 h2 => hk q h1 h2) hF hp hD1
  have hP1 : va_P D vwCl W1 t.heap := hj.1.sub isW hW
  obtain ⟨t2, a1, b1⟩ := kk T'.heap (locs ++ L) (by rw [e1]; exact hP1)
    ⟨Nat.le_trans hS.1 (by rw [e1]; exact hz), fun q h1 h2 => by rw [e1, hk q (Nat.lt_of_lt_of_le h1 hS.1) (fun z => h2 (hF q z))]; exact hS.2.1 q h1 h2, fun q hq => by
      rcases List.mem_append.mp hq with h | h
      · exact hS.2.2 q h
      · exact hF _ (hL q h)⟩ T' rfl X'
  exact ⟨t2, st t2 a1, b1⟩
theorem mu_V (S : CallFix p m c cc nL s args Ts own) (hM : Met l y ws rm (va_Pc (.ref b :: As) (pM D cI cJ wc H.size)) (qM o D w1 (va_A wc H.size)) 0 0 (va_A wc H.size)) (cw : CallW R s args own C index y bytes maxL ret ws rm 0 0 n)
    (hE : xE D cI cJ s) (k0 : Nat) (he : W0[k0]? = some (b, .inr (ci, fs))) (hcl : vwCl[ci]? = some q) (hCq : q.1 = C)
    (hn : As.length = n) (hsize : ls.size = nL) (hstack : st0 = As.reverse ++ .ref b :: rest) (hWr : (rest.map fun v => v.category).sum ≤ 8) (hdg : decode cc pc = .ok (.invokevirtual index, 3)) (hf : cells ≤ R.cells ∧ slots ≤ R.slots)
    (hP : va_P D vwCl W0 H) (hD : va_D A0 W0) (hS : va_S A0 H0 H locs) (hA : ∀ q, H0.size ≤ q → A0 q)
    (isC isR isW : List Nat) (hC : isC.map (fun i => W0[i]?) = wc.map some) (hR : isR.map (fun i => W0[i]?) = (isR.filterMap (fun i => W0[i]?)).map some) (hnd : va_nd isR = true) (hdis : isR.all (fun i => !isC.contains i) = true) (hfst : w1.map Prod.fst = wc.map Prod.fst) (hnC : va_nd isC = true)
    (hW : isW.filterMap (fun i => (isR.filterMap (fun i => W0[i]?) ++ w1)[i]?) = W1)
    (kk : ∀ (H1 : Heap) (locs1 : List Loc), va_P D vwCl W1 H1 → va_S A0 H0 H1 locs1 → W p l e R s m args below meth c H1 locs1 cells slots Q (F0 m (pc + 3) ls (o.toList ++ rest))) : W p l e R s m args below meth c H locs cells slots Q (F0 m pc ls st0) := by
  subst hCq
  have hDc : va_D (fun _ => True) wc := (hD.sub isC hnC hC).weaken (fun _ _ _ _ => trivial)
  have hPc : va_P D vwCl wc H := fun k q hk => by
    have h1 : (isC.map (fun i => W0[i]?))[k]? = some (some q) := by rw [hC, List.getElem?_map, hk]; rfl
    rw [List.getElem?_map] at h1
    cases hi : isC[k]? with
    | none => rw [hi] at h1; cases h1
    | some i => rw [hi] at h1; exact hP i q (Option.some.inj h1)
  exact mu_back (va_runV S hM cw ⟨pM.blind, va_recv hE.1 hP hcl he, fun U hU hW => ⟨rfl, by rw [hU], by rw [hU]; exact hPc, xE.warm hW hE, hDc⟩⟩ rfl hn hsize hstack (by show 2 * 0 + _ ≤ 8; omega) hdg hf) hP hD hS hA isC isR isW hC hR hnd hdis hfst hnC hW kk
theorem mu_S (S : CallFix p m c cc nL s args Ts own) (hM : Met l y ws rm (va_Pc As (pM D cI cJ wc H.size)) (qM o D w1 (va_A wc H.size)) 0 0 (va_A wc H.size)) (cw : CallB R s args own index y bytes maxL ret ws rm 0 0 n ∧ (Cond.static y).before args s = true)
    (hE : xE D cI cJ s)
    (hn : As.length = n) (hsize : ls.size = nL) (hstack : st0 = As.reverse ++ rest) (hWr : (rest.map fun v => v.category).sum ≤ 8) (hdg : decode cc pc = .ok (.invokestatic index, 3)) (hf : cells ≤ R.cells ∧ slots ≤ R.slots)
    (hP : va_P D vwCl W0 H) (hD : va_D A0 W0) (hS : va_S A0 H0 H locs) (hA : ∀ q, H0.size ≤ q → A0 q)
    (isC isR isW : List Nat) (hC : isC.map (fun i => W0[i]?) = wc.map some) (hR : isR.map (fun i => W0[i]?) = (isR.filterMap (fun i => W0[i]?)).map some) (hnd : va_nd isR = true) (hdis : isR.all (fun i => !isC.contains i) = true) (hfst : w1.map Prod.fst = wc.map Prod.fst) (hnC : va_nd isC = true)
    (hW : isW.filterMap (fun i => (isR.filterMap (fun i => W0[i]?) ++ w1)[i]?) = W1)
    (kk : ∀ (H1 : Heap) (locs1 : List Loc), va_P D vwCl W1 H1 → va_S A0 H0 H1 locs1 → W p l e R s m args below meth c H1 locs1 cells slots Q (F0 m (pc + 3) ls (o.toList ++ rest))) : W p l e R s m args below meth c H locs cells slots Q (F0 m pc ls st0) := by
  have hDc : va_D (fun _ => True) wc := (hD.sub isC hnC hC).weaken (fun _ _ _ _ => trivial)
  have hPc : va_P D vwCl wc H := fun k q hk => by
    have h1 : (isC.map (fun i => W0[i]?))[k]? = some (some q) := by rw [hC, List.getElem?_map, hk]; rfl
    rw [List.getElem?_map] at h1
    cases hi : isC[k]? with
    | none => rw [hi] at h1; cases h1
    | some i => rw [hi] at h1; exact hP i q (Option.some.inj h1)
  exact mu_back (va_runS S hM cw ⟨pM.blind, fun U hU hW => ⟨rfl, by rw [hU], by rw [hU]; exact hPc, xE.warm hW hE, hDc⟩⟩ rfl hn hsize hstack (by show 2 * 0 + _ ≤ 8; omega) hdg hf) hP hD hS hA isC isR isW hC hR hnd hdis hfst hnC hW kk
end XMU
section XMF
variable {l : Launch} {y : MethodName} {ws ws' : List Cond} {rm : Room} {cc : ByteArray} {maxL : Nat} {D : va_G} {cI cJ : ClassId} {wc w1 : va_W} {av : List Value} {sz : Nat}
theorem mu_of {ret : Option FieldType} {o : Option Value} (hy : plainName y.cls = true) (hw : ws = Cond.code y cc maxL ret :: ws') (hlen : (lg_sl av).length ≤ maxL)
    (body : ∀ (p : Program) (e : Env) (s : State) (m : MethodId) (args : Array Value) (below : List Frame) (meth : Method) (c : Code) (Q : State → Prop) (ls : Array Slot) (A : Nat → Prop), p.tables.exec = Jvm.exec → c.code = cc → c.maxLocals = maxL → s.vm.findClass y.cls = some m.cls → (∀ w ∈ ws, w.before args s = true) → xE D cI cJ s → va_P D vwCl wc s.heap → va_D A wc → (∀ q, s.heap.size ≤ q → A q) → meth.sig.returnType = ret → meth.locks = false →
      (∀ (H : Heap) (locs : List Loc) (g : JFrame), va_P D vwCl w1 H → va_S A s.heap H locs → (∀ (Qc : Array Value → State → Outcome → State → Prop) (free : Addr → Prop), (∀ t : State, t.heap = H → s.WarmedH t.vm → Qc args s (.returned o) t) → (∀ q ∈ locs, free q.base) → W p l e rm s m args below meth c H locs 0 0 (MQ below Qc args s 0 0 free) g) → W p l e rm s m args below meth c H locs 0 0 Q g) → lv_has ls maxL (lv_args 0 av) → W p l e rm s m args below meth c s.heap [] 0 0 Q (F0 m 0 ls [])) :
    Met l y ws rm (va_Pc av (pM D cI cJ wc sz)) (qM o D w1 (va_A wc sz)) 0 0 (va_A wc sz) := by
  refine Met.ofW hy hw ?_
  intro p e s m args below meth c s₁ B hml hv
  obtain ⟨rfl, hsz, hP, hE, hD0⟩ := hv
  subst hsz
  rw [lg_entry_eq]
  exact body p e s m _ below meth c _ _ _ B.exec B.bytes hml (findClass_of_methodNamed B.named) (atoms_spec (ws := ws) B.pre) hE hP (hD0.self (sz := s.heap.size)) (fun q h => Or.inr h) B.returns B.notSynchronized
    (fun H locs g hP1 hS k => k _ _ (fun t ht _ => ⟨rfl, by rw [ht]; exact hP1, hS.F ht⟩) hS.2.2) (lv_entry av hlen)
end XMF
/-! steps of the pure functions -/
theorem ite_p {α : Type} {P : Prop} {i : Decidable P} {a b o : α} (h : (if P then a else b) = o) (hc : P) : a = o := by rw [if_pos hc] at h; exact h
theorem ite_n {α : Type} {P : Prop} {i : Decidable P} {a b o : α} (h : (if P then a else b) = o) (hc : ¬ P) : b = o := by rw [if_neg hc] at h; exact h
theorem bd_e {α β : Type} {o : Option α} {k : α → Option β} {r : β} (h : Option.bind o k = some r) : ∃ u, o = some u ∧ k u = some r := by
  cases o with
  | none => cases h
  | some u => exact ⟨u, rfl, h⟩
def qn_ {α β : Type} (a : α) (k : α → β) : β := k a
theorem qn_e {α β : Type} {a x : α} {k : α → β} {o : β} (h : qn_ a k = o) (e : x = a) : k x = o := by subst e; exact h
def rd_ {α : Type} (f : Nat → α) (n : Nat) (i : Int32) : Option α := if i < 0 ∨ n ≤ i.toNatClampNeg then none else some (f i.toNatClampNeg)
theorem rd_e {α β : Type} {f : Nat → α} {n : Nat} {i : Int32} {k : α → Option β} {r : β} (h : Option.bind (rd_ f n i) k = some r) : ∃ g, g = f i.toNatClampNeg ∧ vp_in i n ∧ k g = some r := by
  unfold rd_ at h
  split at h
  · cases h
  · exact ⟨_, rfl, by assumption, h⟩
def wr_ (f : Nat → Int32) (n : Nat) (i x : Int32) : Option (Nat → Int32) := if i < 0 ∨ n ≤ i.toNatClampNeg then none else some (upd f i.toNatClampNeg x)
theorem wr_e {β : Type} {f : Nat → Int32} {n : Nat} {i x : Int32} {k : (Nat → Int32) → Option β} {r : β} (h : Option.bind (wr_ f n i x) k = some r) : ∃ g, g = upd f i.toNatClampNeg x ∧ vp_in i n ∧ k g = some r := by
  unfold wr_ at h
  split at h
  · cases h
  · exact ⟨_, rfl, by assumption, h⟩
def wrL_ (f : Nat → Int64) (n : Nat) (i : Int32) (x : Int64) : Option (Nat → Int64) := if i < 0 ∨ n ≤ i.toNatClampNeg then none else some (vp_updL f i.toNatClampNeg x)
theorem wrL_e {β : Type} {f : Nat → Int64} {n : Nat} {i : Int32} {x : Int64} {k : (Nat → Int64) → Option β} {r : β} (h : Option.bind (wrL_ f n i x) k = some r) : ∃ g, g = vp_updL f i.toNatClampNeg x ∧ vp_in i n ∧ k g = some r := by
  unfold wrL_ at h
  split at h
  · cases h
  · exact ⟨_, rfl, by assumption, h⟩
def dv_ (x y : Int32) : Option Int32 := if y = 0 then none else some (x / y)
theorem dv_e {β : Type} {x y : Int32} {k : Int32 → Option β} {r : β} (h : Option.bind (dv_ x y) k = some r) : ∃ g, g = x / y ∧ ¬ y = 0 ∧ k g = some r := by
  unfold dv_ at h
  split at h
  · cases h
  · exact ⟨_, rfl, by assumption, h⟩
def md_ (x y : Int32) : Option Int32 := if y = 0 then none else some (x - x / y * y)
theorem md_e {β : Type} {x y : Int32} {k : Int32 → Option β} {r : β} (h : Option.bind (md_ x y) k = some r) : ∃ g, g = x - x / y * y ∧ ¬ y = 0 ∧ k g = some r := by
  unfold md_ at h
  split at h
  · cases h
  · exact ⟨_, rfl, by assumption, h⟩
def mdL_ (x y : Int64) : Option Int64 := if y = 0 then none else some (x - x / y * y)
theorem mdL_e {β : Type} {x y : Int64} {k : Int64 → Option β} {r : β} (h : Option.bind (mdL_ x y) k = some r) : ∃ g, g = x - x / y * y ∧ ¬ y = 0 ∧ k g = some r := by
  unfold mdL_ at h
  split at h
  · cases h
  · exact ⟨_, rfl, by assumption, h⟩
def bz_ (x : Int32) : Option Int32 := if x = 0 ∨ x = 1 then some x else none
theorem bz_e {β : Type} {x : Int32} {k : Int32 → Option β} {r : β} (h : Option.bind (bz_ x) k = some r) : (x = 0 ∨ x = 1) ∧ k x = some r := by
  unfold bz_ at h
  split at h
  · exact ⟨by assumption, h⟩
  · cases h
def cpI_ (f : Nat → Int32) (n0 : Nat) (sp : Int32) (g : Nat → Int32) (n1 : Nat) (dp n : Int32) : Option (Nat → Int32) := if ¬ sp < 0 ∧ ¬ dp < 0 ∧ ¬ n < 0 ∧ sp.toNatClampNeg + n.toNatClampNeg ≤ n0 ∧ dp.toNatClampNeg + n.toNatClampNeg ≤ n1 then some (va_cpy f g sp.toNatClampNeg dp.toNatClampNeg n.toNatClampNeg) else none
theorem cpI_e {β : Type} {f : Nat → Int32} {n0 : Nat} {sp : Int32} {g : Nat → Int32} {n1 : Nat} {dp n : Int32} {k : (Nat → Int32) → Option β} {r : β} (h : Option.bind (cpI_ f n0 sp g n1 dp n) k = some r) : ∃ w, w = va_cpy f g sp.toNatClampNeg dp.toNatClampNeg n.toNatClampNeg ∧ (¬ sp < 0 ∧ ¬ dp < 0 ∧ ¬ n < 0 ∧ sp.toNatClampNeg + n.toNatClampNeg ≤ n0 ∧ dp.toNatClampNeg + n.toNatClampNeg ≤ n1) ∧ k w = some r := by
  unfold cpI_ at h
  split at h
  · exact ⟨_, rfl, by assumption, h⟩
  · cases h
def cpL_ (f : Nat → Int64) (n0 : Nat) (sp : Int32) (g : Nat → Int64) (n1 : Nat) (dp n : Int32) : Option (Nat → Int64) := if ¬ sp < 0 ∧ ¬ dp < 0 ∧ ¬ n < 0 ∧ sp.toNatClampNeg + n.toNatClampNeg ≤ n0 ∧ dp.toNatClampNeg + n.toNatClampNeg ≤ n1 then some (va_cpy f g sp.toNatClampNeg dp.toNatClampNeg n.toNatClampNeg) else none
theorem cpL_e {β : Type} {f : Nat → Int64} {n0 : Nat} {sp : Int32} {g : Nat → Int64} {n1 : Nat} {dp n : Int32} {k : (Nat → Int64) → Option β} {r : β} (h : Option.bind (cpL_ f n0 sp g n1 dp n) k = some r) : ∃ w, w = va_cpy f g sp.toNatClampNeg dp.toNatClampNeg n.toNatClampNeg ∧ (¬ sp < 0 ∧ ¬ dp < 0 ∧ ¬ n < 0 ∧ sp.toNatClampNeg + n.toNatClampNeg ≤ n0 ∧ dp.toNatClampNeg + n.toNatClampNeg ≤ n1) ∧ k w = some r := by
  unfold cpL_ at h
  split at h
  · exact ⟨_, rfl, by assumption, h⟩
  · cases h
theorem nb_lit (P : Prop) [Decidable P] : ((if P then (1 : Int32) else 0) = 0 ∨ (if P then (1 : Int32) else 0) = 1) := by split <;> simp
theorem nb_litR (P : Prop) [Decidable P] : ((if P then (0 : Int32) else 1) = 0 ∨ (if P then (0 : Int32) else 1) = 1) := by split <;> simp
theorem nz_ {v : Int32} (h : v = 0 ∨ v = 1) : narrow .boolean (.int v) = .int v := by rcases h with rfl | rfl <;> rfl
theorem tbl_out {x : Int32} {lo hi : Int} (h : ∀ k : Int, lo ≤ k → k ≤ hi → x.toInt ≠ k) : x.toInt < lo ∨ hi < x.toInt := by
  rcases Int.lt_or_le x.toInt lo with a | a
  · exact Or.inl a
  · rcases Int.lt_or_le hi x.toInt with b | b
    · exact Or.inr b
    · exact absurd rfl (h x.toInt a b)
theorem lks_out {ps : List (Int × Int)} {d x : Int} (h : ∀ k ∈ ps.map Prod.fst, x ≠ k) : Op.lookupswitch.offset ps d x = d := by
  apply Op.lookupswitch.offset_none
  rw [List.find?_eq_none]
  intro q hq hx
  exact h q.1 (List.mem_map.mpr ⟨q, hq, rfl⟩) (beq_iff_eq.mp hx).symm
theorem i32_ne {x y : Int32} {k : Int} (h : ¬ x = y) (hy : y.toInt = k) : x.toInt ≠ k := fun e => h (Int32.toInt_inj.mp (by rw [e, hy]))
section XTP
variable {p : Program} {l : Launch} {e : Env} {R : Room} {s : State} {m : MethodId} {args : Array Value} {below : List Frame} {meth : Method} {c : Code} {H : Heap} {locs : List Loc} {cells slots : Nat} {Q : State → Prop} {pc : Nat} {ls : Array Slot} {rest : List Value}
theorem tp_ {x y : Int32} (h : y = x) (k : W p l e R s m args below meth c H locs cells slots Q (F0 m pc ls (.int y :: rest))) : W p l e R s m args below meth c H locs cells slots Q (F0 m pc ls (.int x :: rest)) := by subst h; exact k
theorem tpl_ {x y : Int64} (h : y = x) (k : W p l e R s m args below meth c H locs cells slots Q (F0 m pc ls (.long y :: rest))) : W p l e R s m args below meth c H locs cells slots Q (F0 m pc ls (.long x :: rest)) := by subst h; exact k
end XTP
