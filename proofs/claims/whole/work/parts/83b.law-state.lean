/-! the static row PRIMES, as the Statement gives it: a cell of ints; how a method that reads it is called -/
theorem va_Xlt {b L : Nat} {xs : Nat → Int32} {U : State} {H : Heap} (h : va_X b L xs U H) : b < H.size := by
  obtain ⟨scr, h1, _⟩ := h
  exact (Array.getElem?_eq_some_iff.mp h1).1
def pXS (aS : Nat) (S : Nat → Int32) (D : va_G) (cI cJ : ClassId) (wc : va_W) : State → Prop := fun U => va_P D vwCl wc U.heap ∧ xE D cI cJ U ∧ va_Z "PascalRows" "PRIMES" "[I" (.ref aS) (fun _ => False) U U.heap ∧ va_X aS 4 S U U.heap
theorem pXS.blind {aS : Nat} {S : Nat → Int32} {D : va_G} {cI cJ : ClassId} {wc : va_W} {av : List Value} : FrameBlind (va_Pc av (pXS aS S D cI cJ wc)) := fun a U g mk q => ⟨q.1, q.2.1, xE.vm (u := U) (U := U.calling g mk a) rfl q.2.2.1, va_Z.moved (u := U) (U := U.calling g mk a) (Vm.Alike.refl U.vm) q.2.2.2.1, va_X.moved (u := U) (U := U.calling g mk a) (Vm.Alike.refl U.vm) q.2.2.2.2⟩
section XSX
variable {p : Program} {l : Launch} {e : Env} {R : Room} {s : State} {m : MethodId} {args : Array Value} {below : List Frame} {meth : Method} {c : Code} {H : Heap} {locs : List Loc} {cells slots : Nat} {Q : State → Prop}
variable {y : MethodName} {bytes cc : ByteArray} {maxL nL n index : Nat} {ret : Option FieldType} {ws ws' : List Cond} {rm : Room} {Ts : List Cond} {own C : String} {b aS : Nat} {f : Nat → Int32} {As rest st0 av : List Value} {D : va_G} {cI cJ : ClassId} {wc w0 : va_W} {v : Value} {pc : Nat} {ls : Array Slot} {ci : Nat} {fs : List Value} {q : vw_C}
theorem ro_VX (S : CallFix p m c cc nL s args Ts own) (hM : Met l y ws rm (va_Pc (.ref b :: As) (pXS aS f D cI cJ wc)) (rq v) 0 0 nofree) (cw : CallW R s args own C index y bytes maxL ret ws rm 0 0 n)
    (hE : xE D cI cJ s) (hP0 : va_P D vwCl w0 H) (k0 : Nat) (he : w0[k0]? = some (b, .inr (ci, fs))) (hcl : vwCl[ci]? = some q) (hC : q.1 = C) (hP : va_P D vwCl wc H) (hZ : va_Z "PascalRows" "PRIMES" "[I" (.ref aS) (fun _ => False) s H) (hXS : va_X aS 4 f s H)
    (hn : As.length = n) (hsize : ls.size = nL) (hstack : st0 = As.reverse ++ .ref b :: rest) (hW : (rest.map fun v => v.category).sum ≤ 8) (hdg : decode cc pc = .ok (.invokevirtual index, 3)) (hf : cells ≤ R.cells ∧ slots ≤ R.slots)
    (kk : W p l e R s m args below meth c H locs cells slots Q (F0 m (pc + 3) ls (v :: rest))) : W p l e R s m args below meth c H locs cells slots Q (F0 m pc ls st0) := by
  subst hC
  exact ro_back (va_runV S hM cw ⟨pXS.blind, va_recv hE.1 hP0 hcl he, fun U hU hW => ⟨rfl, by rw [hU]; exact hP, xE.warm hW hE, by rw [hU]; exact va_Z.moved hW.alike hZ, by rw [hU]; exact va_X.moved hW.alike hXS⟩⟩ rfl hn hsize hstack (by show 2 * 0 + _ ≤ 8; omega) hdg hf) kk
theorem ro_of_iX {r : Int32} {maxL : Nat} (hy : plainName y.cls = true) (hw : ws = Cond.code y cc maxL (some .int) :: ws') (hlen : (lg_sl av).length ≤ maxL)
    (body : ∀ (p : Program) (e : Env) (s : State) (m : MethodId) (args : Array Value) (below : List Frame) (meth : Method) (c : Code) (Q : State → Prop) (ls : Array Slot), p.tables.exec = Jvm.exec → c.code = cc → c.maxLocals = maxL → s.vm.findClass y.cls = some m.cls → (∀ w ∈ ws, w.before args s = true) → xE D cI cJ s → va_P D vwCl wc s.heap → va_Z "PascalRows" "PRIMES" "[I" (.ref aS) (fun _ => False) s s.heap → va_X aS 4 f s s.heap →
      (∀ (pc : Nat) (ls : Array Slot) (v : Int32), decode cc pc = .ok (.ireturn, 1) → v = r → W p l e rm s m args below meth c s.heap [] 0 0 Q (F0 m pc ls [.int v])) → lv_has ls maxL (lv_args 0 av) → W p l e rm s m args below meth c s.heap [] 0 0 Q (F0 m 0 ls [])) :
    Met l y ws rm (va_Pc av (pXS aS f D cI cJ wc)) (rq (.int r)) 0 0 nofree := by
  refine Met.ofW hy hw ?_
  intro p e s m args below meth c s₁ B hml hv
  obtain ⟨rfl, hP, hE, hZ, hXS⟩ := hv
  have hlocks := B.notSynchronized
  rw [lg_entry_eq]
  exact body p e s m _ below meth c _ _ B.exec B.bytes hml (findClass_of_methodNamed B.named) (atoms_spec (ws := ws) B.pre) hE hP hZ hXS (fun pc ls v hd hvr => by subst hvr; exact W.iret B.exec B.bytes B.returns (fun t ht _ => ⟨rfl, ht⟩) (fun q hq => by cases hq) hd) (lv_entry av hlen)
end XSX
set_option maxHeartbeats 4000000 in
set_option maxRecDepth 100000 in
theorem k_X6_fitsS (l : Launch) (dC : Nat → ClassId) (dI : Nat → Nat → Nat) (cI cJ : ClassId) (a_o : Nat) (a_o_triangle : Nat) (a_o_now : Nat) (a_o_kept : Nat) (a_o_trial : Nat) (a_o_reader : Nat) (a_o_tapes : Nat) (a_o_triangle_halves : Nat) (a_o_now_marks : Nat) (a_o_now_seen : Nat) (a_o_now_events : Nat) (a_o_now_book : Nat) (a_o_now_seen_numbers : Nat) (a_S : Nat) (o_hasImage : Int32) (o_triangle_halves : Nat → Int32) (o_now_p : Int32) (o_now_e : Int32) (o_now_modulus : Int32) (o_now_windowRow : Int32) (o_now_windowPlace : Int32) (o_now_seen_size : Int32) (o_now_seen_numbers : Nat → Int32) (S : Nat → Int32) (r : Int32) (hr : f_X6_fits o_triangle_halves o_now_seen_numbers o_now_seen_size o_now_e S = some r) : Met l yX6_fits wsX6_fits rmX6_fits (va_Pc [.ref a_o] (pXS a_S S (dC, dI) cI cJ [(a_o, .inr (5, [.ref a_o_triangle, .ref a_o_now, .ref a_o_kept, .ref a_o_trial, .ref a_o_reader, .ref a_o_tapes, .int o_hasImage])), (a_o_triangle, .inr (4, [.ref a_o_triangle_halves])), (a_o_triangle_halves, .inl (cI, 4160, .inl o_triangle_halves)), (a_o_now, .inr (2, [.ref a_o_triangle, .ref a_o_now_marks, .ref a_o_now_seen, .ref a_o_now_events, .ref a_o_now_book, .int o_now_p, .int o_now_e, .int o_now_modulus, .int o_now_windowRow, .int o_now_windowPlace])), (a_o_now_seen, .inr (0, [.ref a_o_now_seen_numbers, .int o_now_seen_size])), (a_o_now_seen_numbers, .inl (cI, 12, .inl o_now_seen_numbers))])) (rq (.int r)) 0 0 nofree := by
  refine ro_of_iX (cc := cX6_fits) (maxL := 3) (by decide) rfl (Nat.le_of_ble_eq_true rfl) ?_
  intro p e s m args below meth c Q ls hx hb hml hown hts hE hP hZ hXS hret hl
  have hK := hE.1
  have hl : lv_has ls 3 [(0, .ref a_o)] := hl
  unfold f_X6_fits at hr
  have iX1 : ∀ w ∈ wsX10, w ∈ wsX6_fits := memr_ (big := wsX6_fits) wsX10 [49, 50] (by decide +kernel)
  have iX3 : ∀ w ∈ wsX30, w ∈ wsX6_fits := memr_ (big := wsX6_fits) wsX30 [39, 40, 41, 42, 43, 44, 45, 46, 47, 48] (by decide +kernel)
  have iX5 : ∀ w ∈ wsX50, w ∈ wsX6_fits := memr_ (big := wsX6_fits) wsX50 [51] (by decide +kernel)
  have iX6 : ∀ w ∈ wsX60, w ∈ wsX6_fits := memr_ (big := wsX6_fits) wsX60 [32, 33, 34, 35, 36, 37, 38] (by decide +kernel)
  refine lv_iconst (v := (0 : Int32)) hx hb dX6_fits_0 (by decide) ?_
  refine lv_istore_n (lv' := [(1, .int (0 : Int32)), (0, .ref a_o)]) hx hb dX6_fits_1 rfl hl (by decide) rfl (fun ls hl => ?_)
  refine lv_iconst (v := (0 : Int32)) hx hb dX6_fits_2 (by decide) ?_
  refine lv_istore_n (lv' := [(2, .int (0 : Int32)), (1, .int (0 : Int32)), (0, .ref a_o)]) hx hb dX6_fits_3 rfl hl (by decide) rfl (fun ls hl => ?_)
  have hL4 : ∀  (k_4 : Int32 → Option (Int32)) (hk : ∀ (x1_4 : Int32) (ls : Array Slot), lv_has ls 3 [(1, .int x1_4)] → k_4 x1_4 = some r → W p l e rmX6_fits s m args below meth c s.heap [] 0 0 Q (F0 m 36 ls [])) (fuel : Nat) (v1_4 : Int32) (v2_4 : Int32) (ls : Array Slot), lv_has ls 3 [(0, .ref a_o), (1, .int v1_4), (2, .int v2_4)] → f_X6_fits_L4 k_4 o_triangle_halves o_now_seen_numbers o_now_seen_size o_now_e S fuel v1_4 v2_4 = some r → W p l e rmX6_fits s m args below meth c s.heap [] 0 0 Q (F0 m 4 ls []) := by
    intro k_4 hk fuel
    induction fuel with
    | zero =>
      intro v1_4 v2_4 ls hl hr
      rw [f_X6_fits_L4_z] at hr
      cases hr
    | succ fuel ih =>
      intro v1_4 v2_4 ls hl hr
      rw [f_X6_fits_L4_s] at hr
      refine lv_iload_n hx hb dX6_fits_4 rfl (lv_at hl 2 rfl) ?_
      refine va_gets hx hb (C := "PascalRows") (n := "PRIMES") (d := "[I") (v := .ref a_S) hZ va_S.rf hown (hts (.fieldLink RX6 201 "PascalRows" "PRIMES" "[I") (List.mem_of_getElem? (i := 1) rfl)) (fun _ h9 => h9) dX6_fits_5 ?_
      refine va_slen (A := fun _ => False) hx hb hXS (va_Xlt hXS) (fun z => z) va_S.rf dX6_fits_8 ?_
      refine lv_icmp_ge (tgt := 36) hx hb dX6_fits_9 (by decide) (fun c_1 => ?_) (fun c_1 => ?_)
      · have hr := ite_p hr c_1
        exact hk v1_4 ls (lv_sub hl [1] rfl) hr
      · have hr := ite_n hr c_1
        refine lv_aload_n hx hb dX6_fits_12 rfl (lv_at hl 0 rfl) ?_
        refine va_gets hx hb (C := "PascalRows") (n := "PRIMES") (d := "[I") (v := .ref a_S) hZ va_S.rf hown (hts (.fieldLink RX6 201 "PascalRows" "PRIMES" "[I") (List.mem_of_getElem? (i := 1) rfl)) (fun _ h9 => h9) dX6_fits_13 ?_
        refine lv_iload_n hx hb dX6_fits_16 rfl (lv_at hl 2 rfl) ?_
        obtain ⟨g_2, eg_2, hg_2, hr⟩ := rd_e hr
        refine va_sld (A := fun _ => False) hx hb hXS (va_Xlt hXS) (fun z => z) va_S.rf hg_2 dX6_fits_17 ?_
        refine tp_ eg_2 ?_
        obtain ⟨u_3, hu_3, hr⟩ := bd_e hr
        refine ro_V ⟨hx, hb, hml, hown, hts⟩ (k_X6_isSeenBy l dC dI cI cJ a_o a_o_triangle a_o_now a_o_kept a_o_trial a_o_reader a_o_tapes a_o_triangle_halves a_o_now_marks a_o_now_seen a_o_now_events a_o_now_book a_o_now_seen_numbers g_2 o_hasImage o_triangle_halves o_now_p o_now_e o_now_modulus o_now_windowRow o_now_windowPlace o_now_seen_size o_now_seen_numbers u_3 hu_3) (cwV 1 hts gX6_fits_X6_isSeenBy rfl rfl rfl (by decide +kernel) ⟨Nat.le_of_ble_eq_true rfl, Nat.le_of_ble_eq_true rfl⟩) hE hP 0 rfl rfl rfl (hP.sub [0, 1, 2, 3, 4, 5] rfl) rfl hl.1 rfl (Nat.le_of_ble_eq_true rfl) dX6_fits_18 ⟨Nat.zero_le _, Nat.zero_le _⟩ ?_
        have hJ_4 : ∀ (y_5 : Int32) (ey_5 : y_5 = (if (u_3 = 0) then v1_4 else (v1_4 ||| ((1 : Int32) <<< (v2_4 &&& 31))))) (ls : Array Slot), lv_has ls 3 [(0, .ref a_o), (1, .int y_5), (2, .int v2_4)] → W p l e rmX6_fits s m args below meth c s.heap [] 0 0 Q (F0 m 30 ls []) := by
          intro y_5 ey_5 ls hl
          have hr := qn_e hr ey_5
          refine lv_iinc (v := (v2_4 + (1 : Int32))) (lv' := [(2, .int (v2_4 + (1 : Int32))), (0, .ref a_o), (1, .int y_5)]) hx hb dX6_fits_30 hl (k := 2) rfl (congrArg (fun z => v2_4 + z) (by decide)) (by decide) rfl (fun ls hl => ?_)
          refine lv_goto (tgt := 4) hx hb dX6_fits_33 (by decide) ?_
          exact ih y_5 (v2_4 + (1 : Int32)) ls (lv_sub hl [1, 2, 0] rfl) hr
        refine lv_if_eq (tgt := 30) hx hb dX6_fits_21 (by decide) (fun c_6 => ?_) (fun c_6 => ?_)
        · exact hJ_4 _ (if_pos c_6).symm ls (lv_sub hl [0, 1, 2] rfl)
        · refine lv_iload_n hx hb dX6_fits_24 rfl (lv_at hl 1 rfl) ?_
          refine lv_iconst (v := (1 : Int32)) hx hb dX6_fits_25 (by decide) ?_
          refine lv_iload_n hx hb dX6_fits_26 rfl (lv_at hl 2 rfl) ?_
          refine lv_ishl hx hb dX6_fits_27 ?_
          refine lv_ior hx hb dX6_fits_28 ?_
          refine lv_istore_n (lv' := [(1, .int (v1_4 ||| ((1 : Int32) <<< (v2_4 &&& 31)))), (0, .ref a_o), (2, .int v2_4)]) hx hb dX6_fits_29 rfl hl (by decide) rfl (fun ls hl => ?_)
          exact hJ_4 _ (if_neg c_6).symm ls (lv_sub hl [1, 0, 2] rfl)
  refine hL4  _ (fun x1_4 ls hl hr => ?_) 5000 (0 : Int32) (0 : Int32) ls (lv_sub hl [2, 1, 0] rfl) hr
  refine lv_iload_n hx hb dX6_fits_36 rfl (lv_at hl 0 rfl) ?_
  exact hret 37 ls _ dX6_fits_37 (Option.some.inj hr)
/-! the law's own state -/
def PS : Nat → Int32 := fun j => if j = 0 then 2 else if j = 1 then 3 else if j = 2 then 5 else 7
theorem PS_v : PS 0 = 2 ∧ PS 1 = 3 ∧ PS 2 = 5 ∧ PS 3 = 7 := ⟨rfl, rfl, rfl, rfl⟩
def wd (cI cJ : ClassId) (aX aM : Nat) (f k : Nat → Nat) (h : Nat → Int32) (nmn : Nat → Int32) (nms : Int32) (nsn : Nat → Int32) (nss : Int32) (nen : Nat → Int32) (nes : Int32) (nbk : Nat → Int32) (nbs : Int32) (np : Int32) (ne : Int32) (nM : Int32) (nwr : Int32) (nwp : Int32) (kmn : Nat → Int32) (kms : Int32) (ksn : Nat → Int32) (kss : Int32) (ken : Nat → Int32) (kes : Int32) (kbk : Nat → Int32) (kbs : Int32) (kp : Int32) (ke : Int32) (kM : Int32) (kwr : Int32) (kwp : Int32) (tmn : Nat → Int32) (tms : Int32) (tsn : Nat → Int32) (tss : Int32) (ten : Nat → Int32) (tes : Int32) (tbk : Nat → Int32) (tbs : Int32) (tp : Int32) (te : Int32) (tM : Int32) (twr : Int32) (twp : Int32) (tx : Nat → Int32) (len : Int32) (nx : Int32) (cn : Nat → Int32) (cs : Int32) (so : Nat → Int32) (le : Nat → Int32) (it : Nat → Int64) (hi : Int32) (g : Nat → Int32) (kg : Nat → Int32) (wg : Nat → Int32) (tri : Nat → Int32) (tb : Int32) (ty : Nat → Int32) (fd : Int32) (pl : Int32) (lt : Int32) (fs : Int32) (sc : Int32) (so2 : Nat → Int32) (sz : Nat → Int32) (it2 : Nat → Int64) (ik : Int32) : va_W := [(aX, .inr (5, [.ref (f 0), .ref (f 2), .ref (f 11), .ref (f 20), .ref (f 29), .ref (f 33), .int hi])), ((f 0), .inr (4, [.ref (f 1)])), ((f 1), .inl (cI, 4160, .inl h)), ((f 2), .inr (2, [.ref (f 0), .ref (f 3), .ref (f 5), .ref (f 7), .ref (f 9), .int np, .int ne, .int nM, .int nwr, .int nwp])), ((f 3), .inr (0, [.ref (f 4), .int nms])), ((f 4), .inl (cI, 18, .inl nmn)), ((f 5), .inr (0, [.ref (f 6), .int nss])), ((f 6), .inl (cI, 12, .inl nsn)), ((f 7), .inr (0, [.ref (f 8), .int nes])), ((f 8), .inl (cI, 24, .inl nen)), ((f 9), .inr (0, [.ref (f 10), .int nbs])), ((f 10), .inl (cI, 24, .inl nbk)), ((f 11), .inr (2, [.ref (f 0), .ref (f 12), .ref (f 14), .ref (f 16), .ref (f 18), .int kp, .int ke, .int kM, .int kwr, .int kwp])), ((f 12), .inr (0, [.ref (f 13), .int kms])), ((f 13), .inl (cI, 18, .inl kmn)), ((f 14), .inr (0, [.ref (f 15), .int kss])), ((f 15), .inl (cI, 12, .inl ksn)), ((f 16), .inr (0, [.ref (f 17), .int kes])), ((f 17), .inl (cI, 24, .inl ken)), ((f 18), .inr (0, [.ref (f 19), .int kbs])), ((f 19), .inl (cI, 24, .inl kbk)), ((f 20), .inr (2, [.ref (f 0), .ref (f 21), .ref (f 23), .ref (f 25), .ref (f 27), .int tp, .int te, .int tM, .int twr, .int twp])), ((f 21), .inr (0, [.ref (f 22), .int tms])), ((f 22), .inl (cI, 18, .inl tmn)), ((f 23), .inr (0, [.ref (f 24), .int tss])), ((f 24), .inl (cI, 12, .inl tsn)), ((f 25), .inr (0, [.ref (f 26), .int tes])), ((f 26), .inl (cI, 24, .inl ten)), ((f 27), .inr (0, [.ref (f 28), .int tbs])), ((f 28), .inl (cI, 24, .inl tbk)), ((f 29), .inr (1, [.ref (f 30), .ref (f 31), .int len, .int nx])), ((f 30), .inl (cI, 100, .inl tx)), ((f 31), .inr (0, [.ref (f 32), .int cs])), ((f 32), .inl (cI, 36, .inl cn)), ((f 33), .inr (3, [.ref (f 34), .ref (f 35), .ref (f 36)])), ((f 34), .inl (cI, 6, .inl so)), ((f 35), .inl (cI, 6, .inl le)), ((f 36), .inl (cJ, 360, .inr (.inl it))), (aM, .inr (6, [.ref (k 0), .ref (k 1), .ref (k 2), .int ik, .ref (k 3), .int tb, .ref (k 4), .int fd, .int pl, .int lt, .int fs, .int sc, .ref (k 5), .ref (k 6), .ref (k 7)])), ((k 0), .inl (cI, 64, .inl g)), ((k 1), .inl (cI, 64, .inl kg)), ((k 2), .inl (cI, 64, .inl wg)), ((k 3), .inl (cI, 16384, .inl tri)), ((k 4), .inl (cI, 100, .inl ty)), ((k 5), .inl (cI, 6, .inl so2)), ((k 6), .inl (cI, 6, .inl sz)), ((k 7), .inl (cJ, 360, .inr (.inl it2)))]
def INVK (dC : Nat → ClassId) (dI : Nat → Nat → Nat) (cI cJ : ClassId) (aX aM : Nat) (f k : Nat → Nat) (F : Heap → Prop) : Prop := ∀ (h : Nat → Int32) (nmn : Nat → Int32) (nms : Int32) (nsn : Nat → Int32) (nss : Int32) (nen : Nat → Int32) (nes : Int32) (nbk : Nat → Int32) (nbs : Int32) (np : Int32) (ne : Int32) (nM : Int32) (nwr : Int32) (nwp : Int32) (kmn : Nat → Int32) (kms : Int32) (ksn : Nat → Int32) (kss : Int32) (ken : Nat → Int32) (kes : Int32) (kbk : Nat → Int32) (kbs : Int32) (kp : Int32) (ke : Int32) (kM : Int32) (kwr : Int32) (kwp : Int32) (tmn : Nat → Int32) (tms : Int32) (tsn : Nat → Int32) (tss : Int32) (ten : Nat → Int32) (tes : Int32) (tbk : Nat → Int32) (tbs : Int32) (tp : Int32) (te : Int32) (tM : Int32) (twr : Int32) (twp : Int32) (tx : Nat → Int32) (len : Int32) (nx : Int32) (cn : Nat → Int32) (cs : Int32) (so : Nat → Int32) (le : Nat → Int32) (it : Nat → Int64) (hi : Int32) (g : Nat → Int32) (kg : Nat → Int32) (wg : Nat → Int32) (tri : Nat → Int32) (tb : Int32) (ty : Nat → Int32) (fd : Int32) (pl : Int32) (lt : Int32) (fs : Int32) (sc : Int32) (so2 : Nat → Int32) (sz : Nat → Int32) (it2 : Nat → Int64) (ik : Int32) (H : Heap), HT h → OK (tri, tb) → SX nmn nms nsn nss nen nes nbk nbs np ne nM nwr nwp g → KX hi kmn kms ksn kss ken kes kbk kbs kp ke kM kwr kwp ik kg → RC tx len ty fd → TP so le it so2 sz it2 → va_P (dC, dI) vwCl (wd cI cJ aX aM f k h nmn nms nsn nss nen nes nbk nbs np ne nM nwr nwp kmn kms ksn kss ken kes kbk kbs kp ke kM kwr kwp tmn tms tsn tss ten tes tbk tbs tp te tM twr twp tx len nx cn cs so le it hi g kg wg tri tb ty fd pl lt fs sc so2 sz it2 ik) H → F H
def wd0 (aX aM : Nat) (f k : Nat → Nat) : va_W := [aX, f 0, f 1, f 2, f 3, f 4, f 5, f 6, f 7, f 8, f 9, f 10, f 11, f 12, f 13, f 14, f 15, f 16, f 17, f 18, f 19, f 20, f 21, f 22, f 23, f 24, f 25, f 26, f 27, f 28, f 29, f 30, f 31, f 32, f 33, f 34, f 35, f 36, aM, k 0, k 1, k 2, k 3, k 4, k 5, k 6, k 7].map (fun q => (q, .inr (0, [])))
def LC (p : Program) (l : Launch) (e : Env) (s : State) (m : MethodId) (meth : Method) (c : Code) (dC : Nat → ClassId) (dI : Nat → Nat → Nat) (cI cJ : ClassId) (b L : Nat) (xs : Nat → Int32) (aX aM aS : Nat) (f k : Nat → Nat) : Prop := p.tables.exec = Jvm.exec ∧ c.code = code ∧ c.maxLocals = 4 ∧ s.vm.findClass RL = some m.cls ∧ (∀ w ∈ wsL_law, w.before #[Value.ref b] s = true) ∧ va_X b L xs s s.heap ∧ b < s.heap.size ∧ L ≤ 3072 ∧ xE (dC, dI) cI cJ s ∧ va_D (fun q : Nat => s.heap.size ≤ q) (wd0 aX aM f k) ∧ va_Z "PascalRows" "PRIMES" "[I" (.ref aS) (fun _ => False) s s.heap ∧ va_X aS 4 PS s s.heap
theorem sx_c {i j L : Nat} {x : Int32} (hx : x = nI j) (h : i + j < L) (hL : L ≤ 3072) : (nI i + x).toNatClampNeg = i + j := by
  rw [hx, nI_add, nI_clamp (by omega)]
theorem sx_i {i j L : Nat} {x : Int32} (hx : x = nI j) (h : i + j < L) (hL : L ≤ 3072) : vp_in (nI i + x) L := by
  rw [hx, nI_add]
  exact vp_in_nI h (by omega)
theorem RC.e {tx ty : Nat → Int32} {len fd : Int32} (R : RC tx len ty fd) : len = fd := by
  obtain ⟨L, _, e1, e2, _⟩ := R
  rw [e1, e2]
theorem pm_count2 {mn : Nat → Int32} {ms : Int32} {sn : Nat → Int32} {ss : Int32} {en : Nat → Int32} {es : Int32} {bk : Nat → Int32} {bs p e M wr wp : Int32} {g : Nat → Int32} {tx ty : Nat → Int32} {len fd : Int32} (S : SX mn ms sn ss en es bk bs p e M wr wp g) (R : RC tx len ty fd) (p0 : Int32) : ∃ r, f_X6_count p0 ss es bs len = some r ∧ f_X7_count p0 g fd = some r := by
  rw [R.e]
  exact pm_count S p0 fd
